/-! OWN: rules of the law -/
theorem L_law_E {d : Nat} {h : kH} {v0 : Nat} : rn (d + 1) mL_law [.ref v0] h = ex d mL_law 0 [some (.ref v0), none, none, none] [] h := rnE rfl rfl (Nat.le_of_ble_eq_true rfl)
set_option maxRecDepth 100000 in
theorem L_law_0 {d : Nat} {L : kL} {S : List Value} {h : kH} : ex d mL_law 0 L S h = ex d mL_law 3 L (.ref h.2.1 :: S) (knew h (.inr (12, kdef 12)) (kdef 12).length) := exs rfl
set_option maxRecDepth 100000 in
theorem L_law_3 {d : Nat} {L : kL} {S : List Value} {h : kH} {x : Nat} : ex d mL_law 3 L (.ref x :: S) h = ex d mL_law 4 L (.ref x :: .ref x :: S) h := exs rfl
set_option maxRecDepth 100000 in
theorem L_law_4 {d : Nat} {L : kL} {h : kH} {r0 : Nat} {q : Nat} : ex d mL_law 4 L [.ref q, .ref r0] h = (rn d mX11_init [.ref q] h).bind fun r => ex d mL_law 7 L (r.1.toList ++ [.ref r0]) r.2 := exn rfl (Nat.le_of_ble_eq_true rfl)
set_option maxRecDepth 100000 in
theorem L_law_7 {d : Nat} {S : List Value} {h : kH} {a0 a1 a2 a3 : Option Value} {x : Nat} : ex d mL_law 7 [a0, a1, a2, a3] (.ref x :: S) h = ex d mL_law 8 [kkl a0, some (.ref x), a2, a3] S h := exs rfl
set_option maxRecDepth 100000 in
theorem L_law_8 {d : Nat} {L : kL} {S : List Value} {h : kH} : ex d mL_law 8 L S h = ex d mL_law 11 L (.ref h.2.1 :: S) (knew h (.inr (13, kdef 13)) (kdef 13).length) := exs rfl
set_option maxRecDepth 100000 in
theorem L_law_11 {d : Nat} {L : kL} {S : List Value} {h : kH} {x : Nat} : ex d mL_law 11 L (.ref x :: S) h = ex d mL_law 12 L (.ref x :: .ref x :: S) h := exs rfl
set_option maxRecDepth 100000 in
theorem L_law_12 {d : Nat} {L : kL} {h : kH} {r0 : Nat} {q : Nat} : ex d mL_law 12 L [.ref q, .ref r0] h = (rn d mX12_init [.ref q] h).bind fun r => ex d mL_law 15 L (r.1.toList ++ [.ref r0]) r.2 := exn rfl (Nat.le_of_ble_eq_true rfl)
set_option maxRecDepth 100000 in
theorem L_law_15 {d : Nat} {S : List Value} {h : kH} {a0 a1 a2 a3 : Option Value} {x : Nat} : ex d mL_law 15 [a0, a1, a2, a3] (.ref x :: S) h = ex d mL_law 16 [a0, kkl a1, some (.ref x), a3] S h := exs rfl
set_option maxRecDepth 100000 in
theorem L_law_16 {d : Nat} {L : kL} {S : List Value} {h : kH} : ex d mL_law 16 L S h = ex d mL_law 17 L (.int 0 :: S) h := exs rfl
set_option maxRecDepth 100000 in
theorem L_law_17 {d : Nat} {S : List Value} {h : kH} {a0 a1 a2 a3 : Option Value} {x : Int32} : ex d mL_law 17 [a0, a1, a2, a3] (.int x :: S) h = ex d mL_law 18 [a0, a1, kkl a2, some (.int x)] S h := exs rfl
set_option maxRecDepth 100000 in
theorem L_law_18 {d : Nat} {S : List Value} {h : kH} {a0 a1 a2 : Option Value} {x : Int32} : ex d mL_law 18 [a0, a1, a2, some (.int x)] S h = ex d mL_law 19 [a0, a1, a2, some (.int x)] (.int x :: S) h := exs rfl
set_option maxRecDepth 100000 in
theorem L_law_19 {d : Nat} {S : List Value} {h : kH} {a1 a2 a3 : Option Value} {x : Nat} : ex d mL_law 19 [some (.ref x), a1, a2, a3] S h = ex d mL_law 20 [some (.ref x), a1, a2, a3] (.ref x :: S) h := exs rfl
set_option maxRecDepth 100000 in
theorem L_law_20 {d : Nat} {L : kL} {S : List Value} {h : kH} {q : Nat} : ex d mL_law 20 L (.ref q :: S) h = (klen h q).bind fun v => ex d mL_law 21 L (.int v :: S) h := exb (F := fun v => .int v :: S) (G := fun _ => h) rfl
set_option maxRecDepth 100000 in
theorem L_law_21 {d : Nat} {L : kL} {S : List Value} {h : kH} : ex d mL_law 21 L S h = ex d mL_law 23 L (.int 6 :: S) h := exs rfl
set_option maxRecDepth 100000 in
theorem L_law_23 {d : Nat} {L : kL} {S : List Value} {h : kH} {x y : Int32} : ex d mL_law 23 L (.int y :: .int x :: S) h = ex d mL_law 24 L (.int (x - y) :: S) h := exs rfl
set_option maxRecDepth 100000 in
theorem L_law_24 {d : Nat} {L : kL} {S : List Value} {h : kH} {x y : Int32} : ex d mL_law 24 L (.int y :: .int x :: S) h = if y < x then ex d mL_law 1512 L S h else ex d mL_law 27 L S h := exc rfl
set_option maxRecDepth 100000 in
theorem L_law_27 {d : Nat} {S : List Value} {h : kH} {a1 a2 a3 : Option Value} {x : Nat} : ex d mL_law 27 [some (.ref x), a1, a2, a3] S h = ex d mL_law 28 [some (.ref x), a1, a2, a3] (.ref x :: S) h := exs rfl
set_option maxRecDepth 100000 in
theorem L_law_28 {d : Nat} {S : List Value} {h : kH} {a0 a1 a2 : Option Value} {x : Int32} : ex d mL_law 28 [a0, a1, a2, some (.int x)] S h = ex d mL_law 29 [a0, a1, a2, some (.int x)] (.int x :: S) h := exs rfl
set_option maxRecDepth 100000 in
theorem L_law_29 {d : Nat} {L : kL} {S : List Value} {h : kH} {q : Nat} {i : Int32} : ex d mL_law 29 L (.int i :: .ref q :: S) h = (kil h q i).bind fun v => ex d mL_law 30 L (.int v :: S) h := exb (F := fun v => .int v :: S) (G := fun _ => h) rfl
set_option maxRecDepth 100000 in
theorem L_law_30 {d : Nat} {L : kL} {S : List Value} {h : kH} : ex d mL_law 30 L S h = ex d mL_law 32 L (.int 63 :: S) h := exs rfl
set_option maxRecDepth 100000 in
theorem L_law_32 {d : Nat} {L : kL} {S : List Value} {h : kH} {x y : Int32} : ex d mL_law 32 L (.int y :: .int x :: S) h = ex d mL_law 33 L (.int (x &&& y) :: S) h := exs rfl
set_option maxRecDepth 100000 in
theorem L_law_33 {d : Nat} {L : kL} {S : List Value} {h : kH} {x : Int32} : ex d mL_law 33 L (.int x :: S) h = if x = 0 then ex d mL_law 200 L S h else if x = 1 then ex d mL_law 263 L S h else if x = 2 then ex d mL_law 306 L S h else if x = 3 then ex d mL_law 329 L S h else if x = 4 then ex d mL_law 352 L S h else if x = 5 then ex d mL_law 376 L S h else if x = 6 then ex d mL_law 399 L S h else if x = 7 then ex d mL_law 422 L S h else if x = 8 then ex d mL_law 455 L S h else if x = 9 then ex d mL_law 478 L S h else if x = 10 then ex d mL_law 501 L S h else if x = 11 then ex d mL_law 534 L S h else if x = 12 then ex d mL_law 568 L S h else if x = 13 then ex d mL_law 601 L S h else if x = 14 then ex d mL_law 614 L S h else if x = 15 then ex d mL_law 637 L S h else if x = 16 then ex d mL_law 670 L S h else if x = 17 then ex d mL_law 703 L S h else if x = 18 then ex d mL_law 746 L S h else if x = 19 then ex d mL_law 789 L S h else if x = 20 then ex d mL_law 822 L S h else if x = 21 then ex d mL_law 855 L S h else if x = 22 then ex d mL_law 888 L S h else if x = 23 then ex d mL_law 931 L S h else if x = 24 then ex d mL_law 984 L S h else if x = 25 then ex d mL_law 1017 L S h else if x = 26 then ex d mL_law 1060 L S h else if x = 27 then ex d mL_law 1093 L S h else if x = 28 then ex d mL_law 1136 L S h else if x = 29 then ex d mL_law 1159 L S h else if x = 30 then ex d mL_law 1182 L S h else if x = 31 then ex d mL_law 1215 L S h else if x = 32 then ex d mL_law 1248 L S h else if x = 33 then ex d mL_law 1281 L S h else if x = 34 then ex d mL_law 1334 L S h else if x = 35 then ex d mL_law 1367 L S h else if x = 36 then ex d mL_law 1430 L S h else if x = 37 then ex d mL_law 1483 L S h else ex d mL_law 1506 L S h := by
  refine (exsw (o := if x.toInt < 0 ∨ 37 < x.toInt then some 1473 else (#[167, 230, 273, 296, 319, 343, 366, 389, 422, 445, 468, 501, 535, 568, 581, 604, 637, 670, 713, 756, 789, 822, 855, 898, 951, 984, 1027, 1060, 1103, 1126, 1149, 1182, 1215, 1248, 1301, 1334, 1397, 1450] : Array Int)[(x.toInt - 0).toNat]?) rfl).trans ?_
  by_cases c0 : x = 0
  · subst c0; rfl
  rw [if_neg c0]
  by_cases c1 : x = 1
  · subst c1; rfl
  rw [if_neg c1]
  by_cases c2 : x = 2
  · subst c2; rfl
  rw [if_neg c2]
  by_cases c3 : x = 3
  · subst c3; rfl
  rw [if_neg c3]
  by_cases c4 : x = 4
  · subst c4; rfl
  rw [if_neg c4]
  by_cases c5 : x = 5
  · subst c5; rfl
  rw [if_neg c5]
  by_cases c6 : x = 6
  · subst c6; rfl
  rw [if_neg c6]
  by_cases c7 : x = 7
  · subst c7; rfl
  rw [if_neg c7]
  by_cases c8 : x = 8
  · subst c8; rfl
  rw [if_neg c8]
  by_cases c9 : x = 9
  · subst c9; rfl
  rw [if_neg c9]
  by_cases c10 : x = 10
  · subst c10; rfl
  rw [if_neg c10]
  by_cases c11 : x = 11
  · subst c11; rfl
  rw [if_neg c11]
  by_cases c12 : x = 12
  · subst c12; rfl
  rw [if_neg c12]
  by_cases c13 : x = 13
  · subst c13; rfl
  rw [if_neg c13]
  by_cases c14 : x = 14
  · subst c14; rfl
  rw [if_neg c14]
  by_cases c15 : x = 15
  · subst c15; rfl
  rw [if_neg c15]
  by_cases c16 : x = 16
  · subst c16; rfl
  rw [if_neg c16]
  by_cases c17 : x = 17
  · subst c17; rfl
  rw [if_neg c17]
  by_cases c18 : x = 18
  · subst c18; rfl
  rw [if_neg c18]
  by_cases c19 : x = 19
  · subst c19; rfl
  rw [if_neg c19]
  by_cases c20 : x = 20
  · subst c20; rfl
  rw [if_neg c20]
  by_cases c21 : x = 21
  · subst c21; rfl
  rw [if_neg c21]
  by_cases c22 : x = 22
  · subst c22; rfl
  rw [if_neg c22]
  by_cases c23 : x = 23
  · subst c23; rfl
  rw [if_neg c23]
  by_cases c24 : x = 24
  · subst c24; rfl
  rw [if_neg c24]
  by_cases c25 : x = 25
  · subst c25; rfl
  rw [if_neg c25]
  by_cases c26 : x = 26
  · subst c26; rfl
  rw [if_neg c26]
  by_cases c27 : x = 27
  · subst c27; rfl
  rw [if_neg c27]
  by_cases c28 : x = 28
  · subst c28; rfl
  rw [if_neg c28]
  by_cases c29 : x = 29
  · subst c29; rfl
  rw [if_neg c29]
  by_cases c30 : x = 30
  · subst c30; rfl
  rw [if_neg c30]
  by_cases c31 : x = 31
  · subst c31; rfl
  rw [if_neg c31]
  by_cases c32 : x = 32
  · subst c32; rfl
  rw [if_neg c32]
  by_cases c33 : x = 33
  · subst c33; rfl
  rw [if_neg c33]
  by_cases c34 : x = 34
  · subst c34; rfl
  rw [if_neg c34]
  by_cases c35 : x = 35
  · subst c35; rfl
  rw [if_neg c35]
  by_cases c36 : x = 36
  · subst c36; rfl
  rw [if_neg c36]
  by_cases c37 : x = 37
  · subst c37; rfl
  rw [if_neg c37]
  have hz : x.toInt < 0 ∨ 37 < x.toInt := by
    rcases Int.lt_or_le x.toInt 0 with z | z
    · exact Or.inl z
    rcases Int.lt_or_le 37 x.toInt with y | y
    · exact Or.inr y
    exfalso
    have hx : x.toInt = 0 ∨ x.toInt = 1 ∨ x.toInt = 2 ∨ x.toInt = 3 ∨ x.toInt = 4 ∨ x.toInt = 5 ∨ x.toInt = 6 ∨ x.toInt = 7 ∨ x.toInt = 8 ∨ x.toInt = 9 ∨ x.toInt = 10 ∨ x.toInt = 11 ∨ x.toInt = 12 ∨ x.toInt = 13 ∨ x.toInt = 14 ∨ x.toInt = 15 ∨ x.toInt = 16 ∨ x.toInt = 17 ∨ x.toInt = 18 ∨ x.toInt = 19 ∨ x.toInt = 20 ∨ x.toInt = 21 ∨ x.toInt = 22 ∨ x.toInt = 23 ∨ x.toInt = 24 ∨ x.toInt = 25 ∨ x.toInt = 26 ∨ x.toInt = 27 ∨ x.toInt = 28 ∨ x.toInt = 29 ∨ x.toInt = 30 ∨ x.toInt = 31 ∨ x.toInt = 32 ∨ x.toInt = 33 ∨ x.toInt = 34 ∨ x.toInt = 35 ∨ x.toInt = 36 ∨ x.toInt = 37 := by omega
    rcases hx with hx | hx | hx | hx | hx | hx | hx | hx | hx | hx | hx | hx | hx | hx | hx | hx | hx | hx | hx | hx | hx | hx | hx | hx | hx | hx | hx | hx | hx | hx | hx | hx | hx | hx | hx | hx | hx | hx
    · exact c0 (Int32.toInt_inj.mp (by rw [hx]; rfl))
    · exact c1 (Int32.toInt_inj.mp (by rw [hx]; rfl))
    · exact c2 (Int32.toInt_inj.mp (by rw [hx]; rfl))
    · exact c3 (Int32.toInt_inj.mp (by rw [hx]; rfl))
    · exact c4 (Int32.toInt_inj.mp (by rw [hx]; rfl))
    · exact c5 (Int32.toInt_inj.mp (by rw [hx]; rfl))
    · exact c6 (Int32.toInt_inj.mp (by rw [hx]; rfl))
    · exact c7 (Int32.toInt_inj.mp (by rw [hx]; rfl))
    · exact c8 (Int32.toInt_inj.mp (by rw [hx]; rfl))
    · exact c9 (Int32.toInt_inj.mp (by rw [hx]; rfl))
    · exact c10 (Int32.toInt_inj.mp (by rw [hx]; rfl))
    · exact c11 (Int32.toInt_inj.mp (by rw [hx]; rfl))
    · exact c12 (Int32.toInt_inj.mp (by rw [hx]; rfl))
    · exact c13 (Int32.toInt_inj.mp (by rw [hx]; rfl))
    · exact c14 (Int32.toInt_inj.mp (by rw [hx]; rfl))
    · exact c15 (Int32.toInt_inj.mp (by rw [hx]; rfl))
    · exact c16 (Int32.toInt_inj.mp (by rw [hx]; rfl))
    · exact c17 (Int32.toInt_inj.mp (by rw [hx]; rfl))
    · exact c18 (Int32.toInt_inj.mp (by rw [hx]; rfl))
    · exact c19 (Int32.toInt_inj.mp (by rw [hx]; rfl))
    · exact c20 (Int32.toInt_inj.mp (by rw [hx]; rfl))
    · exact c21 (Int32.toInt_inj.mp (by rw [hx]; rfl))
    · exact c22 (Int32.toInt_inj.mp (by rw [hx]; rfl))
    · exact c23 (Int32.toInt_inj.mp (by rw [hx]; rfl))
    · exact c24 (Int32.toInt_inj.mp (by rw [hx]; rfl))
    · exact c25 (Int32.toInt_inj.mp (by rw [hx]; rfl))
    · exact c26 (Int32.toInt_inj.mp (by rw [hx]; rfl))
    · exact c27 (Int32.toInt_inj.mp (by rw [hx]; rfl))
    · exact c28 (Int32.toInt_inj.mp (by rw [hx]; rfl))
    · exact c29 (Int32.toInt_inj.mp (by rw [hx]; rfl))
    · exact c30 (Int32.toInt_inj.mp (by rw [hx]; rfl))
    · exact c31 (Int32.toInt_inj.mp (by rw [hx]; rfl))
    · exact c32 (Int32.toInt_inj.mp (by rw [hx]; rfl))
    · exact c33 (Int32.toInt_inj.mp (by rw [hx]; rfl))
    · exact c34 (Int32.toInt_inj.mp (by rw [hx]; rfl))
    · exact c35 (Int32.toInt_inj.mp (by rw [hx]; rfl))
    · exact c36 (Int32.toInt_inj.mp (by rw [hx]; rfl))
    · exact c37 (Int32.toInt_inj.mp (by rw [hx]; rfl))
  rw [if_pos hz]
  rfl
set_option maxRecDepth 100000 in
theorem L_law_200 {d : Nat} {S : List Value} {h : kH} {a0 a2 a3 : Option Value} {x : Nat} : ex d mL_law 200 [a0, some (.ref x), a2, a3] S h = ex d mL_law 201 [a0, some (.ref x), a2, a3] (.ref x :: S) h := exs rfl
set_option maxRecDepth 100000 in
theorem L_law_201 {d : Nat} {S : List Value} {h : kH} {a1 a2 a3 : Option Value} {x : Nat} : ex d mL_law 201 [some (.ref x), a1, a2, a3] S h = ex d mL_law 202 [some (.ref x), a1, a2, a3] (.ref x :: S) h := exs rfl
set_option maxRecDepth 100000 in
theorem L_law_202 {d : Nat} {S : List Value} {h : kH} {a0 a1 a2 : Option Value} {x : Int32} : ex d mL_law 202 [a0, a1, a2, some (.int x)] S h = ex d mL_law 203 [a0, a1, a2, some (.int x)] (.int x :: S) h := exs rfl
set_option maxRecDepth 100000 in
theorem L_law_203 {d : Nat} {L : kL} {S : List Value} {h : kH} : ex d mL_law 203 L S h = ex d mL_law 204 L (.int 1 :: S) h := exs rfl
set_option maxRecDepth 100000 in
theorem L_law_204 {d : Nat} {L : kL} {S : List Value} {h : kH} {x y : Int32} : ex d mL_law 204 L (.int y :: .int x :: S) h = ex d mL_law 205 L (.int (x + y) :: S) h := exs rfl
set_option maxRecDepth 100000 in
theorem L_law_205 {d : Nat} {L : kL} {S : List Value} {h : kH} {q : Nat} {i : Int32} : ex d mL_law 205 L (.int i :: .ref q :: S) h = (kil h q i).bind fun v => ex d mL_law 206 L (.int v :: S) h := exb (F := fun v => .int v :: S) (G := fun _ => h) rfl
set_option maxRecDepth 100000 in
theorem L_law_206 {d : Nat} {S : List Value} {h : kH} {a1 a2 a3 : Option Value} {x : Nat} : ex d mL_law 206 [some (.ref x), a1, a2, a3] S h = ex d mL_law 207 [some (.ref x), a1, a2, a3] (.ref x :: S) h := exs rfl
set_option maxRecDepth 100000 in
theorem L_law_207 {d : Nat} {S : List Value} {h : kH} {a0 a1 a2 : Option Value} {x : Int32} : ex d mL_law 207 [a0, a1, a2, some (.int x)] S h = ex d mL_law 208 [a0, a1, a2, some (.int x)] (.int x :: S) h := exs rfl
set_option maxRecDepth 100000 in
theorem L_law_208 {d : Nat} {L : kL} {S : List Value} {h : kH} : ex d mL_law 208 L S h = ex d mL_law 209 L (.int 2 :: S) h := exs rfl
set_option maxRecDepth 100000 in
theorem L_law_209 {d : Nat} {L : kL} {S : List Value} {h : kH} {x y : Int32} : ex d mL_law 209 L (.int y :: .int x :: S) h = ex d mL_law 210 L (.int (x + y) :: S) h := exs rfl
set_option maxRecDepth 100000 in
theorem L_law_210 {d : Nat} {L : kL} {S : List Value} {h : kH} {q : Nat} {i : Int32} : ex d mL_law 210 L (.int i :: .ref q :: S) h = (kil h q i).bind fun v => ex d mL_law 211 L (.int v :: S) h := exb (F := fun v => .int v :: S) (G := fun _ => h) rfl
set_option maxRecDepth 100000 in
theorem L_law_211 {d : Nat} {S : List Value} {h : kH} {a1 a2 a3 : Option Value} {x : Nat} : ex d mL_law 211 [some (.ref x), a1, a2, a3] S h = ex d mL_law 212 [some (.ref x), a1, a2, a3] (.ref x :: S) h := exs rfl
set_option maxRecDepth 100000 in
theorem L_law_212 {d : Nat} {S : List Value} {h : kH} {a0 a1 a2 : Option Value} {x : Int32} : ex d mL_law 212 [a0, a1, a2, some (.int x)] S h = ex d mL_law 213 [a0, a1, a2, some (.int x)] (.int x :: S) h := exs rfl
set_option maxRecDepth 100000 in
theorem L_law_213 {d : Nat} {L : kL} {S : List Value} {h : kH} : ex d mL_law 213 L S h = ex d mL_law 214 L (.int 3 :: S) h := exs rfl
set_option maxRecDepth 100000 in
theorem L_law_214 {d : Nat} {L : kL} {S : List Value} {h : kH} {x y : Int32} : ex d mL_law 214 L (.int y :: .int x :: S) h = ex d mL_law 215 L (.int (x + y) :: S) h := exs rfl
set_option maxRecDepth 100000 in
theorem L_law_215 {d : Nat} {L : kL} {S : List Value} {h : kH} {q : Nat} {i : Int32} : ex d mL_law 215 L (.int i :: .ref q :: S) h = (kil h q i).bind fun v => ex d mL_law 216 L (.int v :: S) h := exb (F := fun v => .int v :: S) (G := fun _ => h) rfl
set_option maxRecDepth 100000 in
theorem L_law_216 {d : Nat} {S : List Value} {h : kH} {a1 a2 a3 : Option Value} {x : Nat} : ex d mL_law 216 [some (.ref x), a1, a2, a3] S h = ex d mL_law 217 [some (.ref x), a1, a2, a3] (.ref x :: S) h := exs rfl
set_option maxRecDepth 100000 in
theorem L_law_217 {d : Nat} {S : List Value} {h : kH} {a0 a1 a2 : Option Value} {x : Int32} : ex d mL_law 217 [a0, a1, a2, some (.int x)] S h = ex d mL_law 218 [a0, a1, a2, some (.int x)] (.int x :: S) h := exs rfl
set_option maxRecDepth 100000 in
theorem L_law_218 {d : Nat} {L : kL} {S : List Value} {h : kH} : ex d mL_law 218 L S h = ex d mL_law 219 L (.int 4 :: S) h := exs rfl
set_option maxRecDepth 100000 in
theorem L_law_219 {d : Nat} {L : kL} {S : List Value} {h : kH} {x y : Int32} : ex d mL_law 219 L (.int y :: .int x :: S) h = ex d mL_law 220 L (.int (x + y) :: S) h := exs rfl
set_option maxRecDepth 100000 in
theorem L_law_220 {d : Nat} {L : kL} {S : List Value} {h : kH} {q : Nat} {i : Int32} : ex d mL_law 220 L (.int i :: .ref q :: S) h = (kil h q i).bind fun v => ex d mL_law 221 L (.int v :: S) h := exb (F := fun v => .int v :: S) (G := fun _ => h) rfl
set_option maxRecDepth 100000 in
theorem L_law_221 {d : Nat} {S : List Value} {h : kH} {a1 a2 a3 : Option Value} {x : Nat} : ex d mL_law 221 [some (.ref x), a1, a2, a3] S h = ex d mL_law 222 [some (.ref x), a1, a2, a3] (.ref x :: S) h := exs rfl
set_option maxRecDepth 100000 in
theorem L_law_222 {d : Nat} {S : List Value} {h : kH} {a0 a1 a2 : Option Value} {x : Int32} : ex d mL_law 222 [a0, a1, a2, some (.int x)] S h = ex d mL_law 223 [a0, a1, a2, some (.int x)] (.int x :: S) h := exs rfl
set_option maxRecDepth 100000 in
theorem L_law_223 {d : Nat} {L : kL} {S : List Value} {h : kH} : ex d mL_law 223 L S h = ex d mL_law 224 L (.int 5 :: S) h := exs rfl
set_option maxRecDepth 100000 in
theorem L_law_224 {d : Nat} {L : kL} {S : List Value} {h : kH} {x y : Int32} : ex d mL_law 224 L (.int y :: .int x :: S) h = ex d mL_law 225 L (.int (x + y) :: S) h := exs rfl
set_option maxRecDepth 100000 in
theorem L_law_225 {d : Nat} {L : kL} {S : List Value} {h : kH} {q : Nat} {i : Int32} : ex d mL_law 225 L (.int i :: .ref q :: S) h = (kil h q i).bind fun v => ex d mL_law 226 L (.int v :: S) h := exb (F := fun v => .int v :: S) (G := fun _ => h) rfl
set_option maxRecDepth 100000 in
theorem L_law_226 {d : Nat} {L : kL} {h : kH} {v0 : Int32} {v1 : Int32} {v2 : Int32} {v3 : Int32} {v4 : Int32} {q : Nat} : ex d mL_law 226 L [.int v4, .int v3, .int v2, .int v1, .int v0, .ref q] h = if kis h 12 q = true then (rn d mX11_feed [.ref q, .int v0, .int v1, .int v2, .int v3, .int v4] h).bind fun r => ex d mL_law 229 L (r.1.toList ++ []) r.2 else none := exv rfl (Nat.le_of_ble_eq_true rfl)
set_option maxRecDepth 100000 in
theorem L_law_229 {d : Nat} {S : List Value} {h : kH} {a0 a1 a3 : Option Value} {x : Nat} : ex d mL_law 229 [a0, a1, some (.ref x), a3] S h = ex d mL_law 230 [a0, a1, some (.ref x), a3] (.ref x :: S) h := exs rfl
set_option maxRecDepth 100000 in
theorem L_law_230 {d : Nat} {S : List Value} {h : kH} {a1 a2 a3 : Option Value} {x : Nat} : ex d mL_law 230 [some (.ref x), a1, a2, a3] S h = ex d mL_law 231 [some (.ref x), a1, a2, a3] (.ref x :: S) h := exs rfl
set_option maxRecDepth 100000 in
theorem L_law_231 {d : Nat} {S : List Value} {h : kH} {a0 a1 a2 : Option Value} {x : Int32} : ex d mL_law 231 [a0, a1, a2, some (.int x)] S h = ex d mL_law 232 [a0, a1, a2, some (.int x)] (.int x :: S) h := exs rfl
set_option maxRecDepth 100000 in
theorem L_law_232 {d : Nat} {L : kL} {S : List Value} {h : kH} : ex d mL_law 232 L S h = ex d mL_law 233 L (.int 1 :: S) h := exs rfl
set_option maxRecDepth 100000 in
theorem L_law_233 {d : Nat} {L : kL} {S : List Value} {h : kH} {x y : Int32} : ex d mL_law 233 L (.int y :: .int x :: S) h = ex d mL_law 234 L (.int (x + y) :: S) h := exs rfl
set_option maxRecDepth 100000 in
theorem L_law_234 {d : Nat} {L : kL} {S : List Value} {h : kH} {q : Nat} {i : Int32} : ex d mL_law 234 L (.int i :: .ref q :: S) h = (kil h q i).bind fun v => ex d mL_law 235 L (.int v :: S) h := exb (F := fun v => .int v :: S) (G := fun _ => h) rfl
set_option maxRecDepth 100000 in
theorem L_law_235 {d : Nat} {S : List Value} {h : kH} {a1 a2 a3 : Option Value} {x : Nat} : ex d mL_law 235 [some (.ref x), a1, a2, a3] S h = ex d mL_law 236 [some (.ref x), a1, a2, a3] (.ref x :: S) h := exs rfl
set_option maxRecDepth 100000 in
theorem L_law_236 {d : Nat} {S : List Value} {h : kH} {a0 a1 a2 : Option Value} {x : Int32} : ex d mL_law 236 [a0, a1, a2, some (.int x)] S h = ex d mL_law 237 [a0, a1, a2, some (.int x)] (.int x :: S) h := exs rfl
set_option maxRecDepth 100000 in
theorem L_law_237 {d : Nat} {L : kL} {S : List Value} {h : kH} : ex d mL_law 237 L S h = ex d mL_law 238 L (.int 2 :: S) h := exs rfl
set_option maxRecDepth 100000 in
theorem L_law_238 {d : Nat} {L : kL} {S : List Value} {h : kH} {x y : Int32} : ex d mL_law 238 L (.int y :: .int x :: S) h = ex d mL_law 239 L (.int (x + y) :: S) h := exs rfl
set_option maxRecDepth 100000 in
theorem L_law_239 {d : Nat} {L : kL} {S : List Value} {h : kH} {q : Nat} {i : Int32} : ex d mL_law 239 L (.int i :: .ref q :: S) h = (kil h q i).bind fun v => ex d mL_law 240 L (.int v :: S) h := exb (F := fun v => .int v :: S) (G := fun _ => h) rfl
set_option maxRecDepth 100000 in
theorem L_law_240 {d : Nat} {S : List Value} {h : kH} {a1 a2 a3 : Option Value} {x : Nat} : ex d mL_law 240 [some (.ref x), a1, a2, a3] S h = ex d mL_law 241 [some (.ref x), a1, a2, a3] (.ref x :: S) h := exs rfl
set_option maxRecDepth 100000 in
theorem L_law_241 {d : Nat} {S : List Value} {h : kH} {a0 a1 a2 : Option Value} {x : Int32} : ex d mL_law 241 [a0, a1, a2, some (.int x)] S h = ex d mL_law 242 [a0, a1, a2, some (.int x)] (.int x :: S) h := exs rfl
set_option maxRecDepth 100000 in
theorem L_law_242 {d : Nat} {L : kL} {S : List Value} {h : kH} : ex d mL_law 242 L S h = ex d mL_law 243 L (.int 3 :: S) h := exs rfl
set_option maxRecDepth 100000 in
theorem L_law_243 {d : Nat} {L : kL} {S : List Value} {h : kH} {x y : Int32} : ex d mL_law 243 L (.int y :: .int x :: S) h = ex d mL_law 244 L (.int (x + y) :: S) h := exs rfl
set_option maxRecDepth 100000 in
theorem L_law_244 {d : Nat} {L : kL} {S : List Value} {h : kH} {q : Nat} {i : Int32} : ex d mL_law 244 L (.int i :: .ref q :: S) h = (kil h q i).bind fun v => ex d mL_law 245 L (.int v :: S) h := exb (F := fun v => .int v :: S) (G := fun _ => h) rfl
set_option maxRecDepth 100000 in
theorem L_law_245 {d : Nat} {S : List Value} {h : kH} {a1 a2 a3 : Option Value} {x : Nat} : ex d mL_law 245 [some (.ref x), a1, a2, a3] S h = ex d mL_law 246 [some (.ref x), a1, a2, a3] (.ref x :: S) h := exs rfl
set_option maxRecDepth 100000 in
theorem L_law_246 {d : Nat} {S : List Value} {h : kH} {a0 a1 a2 : Option Value} {x : Int32} : ex d mL_law 246 [a0, a1, a2, some (.int x)] S h = ex d mL_law 247 [a0, a1, a2, some (.int x)] (.int x :: S) h := exs rfl
set_option maxRecDepth 100000 in
theorem L_law_247 {d : Nat} {L : kL} {S : List Value} {h : kH} : ex d mL_law 247 L S h = ex d mL_law 248 L (.int 4 :: S) h := exs rfl
set_option maxRecDepth 100000 in
theorem L_law_248 {d : Nat} {L : kL} {S : List Value} {h : kH} {x y : Int32} : ex d mL_law 248 L (.int y :: .int x :: S) h = ex d mL_law 249 L (.int (x + y) :: S) h := exs rfl
set_option maxRecDepth 100000 in
theorem L_law_249 {d : Nat} {L : kL} {S : List Value} {h : kH} {q : Nat} {i : Int32} : ex d mL_law 249 L (.int i :: .ref q :: S) h = (kil h q i).bind fun v => ex d mL_law 250 L (.int v :: S) h := exb (F := fun v => .int v :: S) (G := fun _ => h) rfl
set_option maxRecDepth 100000 in
theorem L_law_250 {d : Nat} {S : List Value} {h : kH} {a1 a2 a3 : Option Value} {x : Nat} : ex d mL_law 250 [some (.ref x), a1, a2, a3] S h = ex d mL_law 251 [some (.ref x), a1, a2, a3] (.ref x :: S) h := exs rfl
set_option maxRecDepth 100000 in
theorem L_law_251 {d : Nat} {S : List Value} {h : kH} {a0 a1 a2 : Option Value} {x : Int32} : ex d mL_law 251 [a0, a1, a2, some (.int x)] S h = ex d mL_law 252 [a0, a1, a2, some (.int x)] (.int x :: S) h := exs rfl
set_option maxRecDepth 100000 in
theorem L_law_252 {d : Nat} {L : kL} {S : List Value} {h : kH} : ex d mL_law 252 L S h = ex d mL_law 253 L (.int 5 :: S) h := exs rfl
set_option maxRecDepth 100000 in
theorem L_law_253 {d : Nat} {L : kL} {S : List Value} {h : kH} {x y : Int32} : ex d mL_law 253 L (.int y :: .int x :: S) h = ex d mL_law 254 L (.int (x + y) :: S) h := exs rfl
set_option maxRecDepth 100000 in
theorem L_law_254 {d : Nat} {L : kL} {S : List Value} {h : kH} {q : Nat} {i : Int32} : ex d mL_law 254 L (.int i :: .ref q :: S) h = (kil h q i).bind fun v => ex d mL_law 255 L (.int v :: S) h := exb (F := fun v => .int v :: S) (G := fun _ => h) rfl
set_option maxRecDepth 100000 in
theorem L_law_255 {d : Nat} {L : kL} {h : kH} {v0 : Int32} {v1 : Int32} {v2 : Int32} {v3 : Int32} {v4 : Int32} {r0 : Int32} {q : Nat} : ex d mL_law 255 L [.int v4, .int v3, .int v2, .int v1, .int v0, .ref q, .int r0] h = if kis h 13 q = true then (rn d mX12_feed [.ref q, .int v0, .int v1, .int v2, .int v3, .int v4] h).bind fun r => ex d mL_law 258 L (r.1.toList ++ [.int r0]) r.2 else none := exv rfl (Nat.le_of_ble_eq_true rfl)
set_option maxRecDepth 100000 in
theorem L_law_258 {d : Nat} {L : kL} {S : List Value} {h : kH} {x y : Int32} : ex d mL_law 258 L (.int y :: .int x :: S) h = if x = y then ex d mL_law 1506 L S h else ex d mL_law 261 L S h := exc rfl
set_option maxRecDepth 100000 in
theorem L_law_261 {d : Nat} {L : kL} {S : List Value} {h : kH} : ex d mL_law 261 L S h = ex d mL_law 262 L (.int 0 :: S) h := exs rfl
set_option maxRecDepth 100000 in
theorem L_law_262_0 {d : Nat} {L : kL} {h : kH} : ex d mL_law 262 L [.int 0] h = some (some (.int 0), h) := exr rfl
set_option maxRecDepth 100000 in
theorem L_law_262_1 {d : Nat} {L : kL} {h : kH} : ex d mL_law 262 L [.int 1] h = some (some (.int 1), h) := exr rfl
set_option maxRecDepth 100000 in
theorem L_law_262 {d : Nat} {L : kL} {h : kH} {v : Int32} (hv : v = 0 ∨ v = 1) : ex d mL_law 262 L [.int v] h = some (some (.int v), h) := by rcases hv with rfl | rfl <;> exact exr rfl
set_option maxRecDepth 100000 in
theorem L_law_263 {d : Nat} {S : List Value} {h : kH} {a0 a2 a3 : Option Value} {x : Nat} : ex d mL_law 263 [a0, some (.ref x), a2, a3] S h = ex d mL_law 264 [a0, some (.ref x), a2, a3] (.ref x :: S) h := exs rfl
set_option maxRecDepth 100000 in
theorem L_law_264 {d : Nat} {S : List Value} {h : kH} {a1 a2 a3 : Option Value} {x : Nat} : ex d mL_law 264 [some (.ref x), a1, a2, a3] S h = ex d mL_law 265 [some (.ref x), a1, a2, a3] (.ref x :: S) h := exs rfl
set_option maxRecDepth 100000 in
theorem L_law_265 {d : Nat} {S : List Value} {h : kH} {a0 a1 a2 : Option Value} {x : Int32} : ex d mL_law 265 [a0, a1, a2, some (.int x)] S h = ex d mL_law 266 [a0, a1, a2, some (.int x)] (.int x :: S) h := exs rfl
set_option maxRecDepth 100000 in
theorem L_law_266 {d : Nat} {L : kL} {S : List Value} {h : kH} : ex d mL_law 266 L S h = ex d mL_law 267 L (.int 1 :: S) h := exs rfl
set_option maxRecDepth 100000 in
theorem L_law_267 {d : Nat} {L : kL} {S : List Value} {h : kH} {x y : Int32} : ex d mL_law 267 L (.int y :: .int x :: S) h = ex d mL_law 268 L (.int (x + y) :: S) h := exs rfl
set_option maxRecDepth 100000 in
theorem L_law_268 {d : Nat} {L : kL} {S : List Value} {h : kH} {q : Nat} {i : Int32} : ex d mL_law 268 L (.int i :: .ref q :: S) h = (kil h q i).bind fun v => ex d mL_law 269 L (.int v :: S) h := exb (F := fun v => .int v :: S) (G := fun _ => h) rfl
set_option maxRecDepth 100000 in
theorem L_law_269 {d : Nat} {S : List Value} {h : kH} {a1 a2 a3 : Option Value} {x : Nat} : ex d mL_law 269 [some (.ref x), a1, a2, a3] S h = ex d mL_law 270 [some (.ref x), a1, a2, a3] (.ref x :: S) h := exs rfl
set_option maxRecDepth 100000 in
theorem L_law_270 {d : Nat} {S : List Value} {h : kH} {a0 a1 a2 : Option Value} {x : Int32} : ex d mL_law 270 [a0, a1, a2, some (.int x)] S h = ex d mL_law 271 [a0, a1, a2, some (.int x)] (.int x :: S) h := exs rfl
set_option maxRecDepth 100000 in
theorem L_law_271 {d : Nat} {L : kL} {S : List Value} {h : kH} : ex d mL_law 271 L S h = ex d mL_law 272 L (.int 2 :: S) h := exs rfl
set_option maxRecDepth 100000 in
theorem L_law_272 {d : Nat} {L : kL} {S : List Value} {h : kH} {x y : Int32} : ex d mL_law 272 L (.int y :: .int x :: S) h = ex d mL_law 273 L (.int (x + y) :: S) h := exs rfl
set_option maxRecDepth 100000 in
theorem L_law_273 {d : Nat} {L : kL} {S : List Value} {h : kH} {q : Nat} {i : Int32} : ex d mL_law 273 L (.int i :: .ref q :: S) h = (kil h q i).bind fun v => ex d mL_law 274 L (.int v :: S) h := exb (F := fun v => .int v :: S) (G := fun _ => h) rfl
set_option maxRecDepth 100000 in
theorem L_law_274 {d : Nat} {S : List Value} {h : kH} {a1 a2 a3 : Option Value} {x : Nat} : ex d mL_law 274 [some (.ref x), a1, a2, a3] S h = ex d mL_law 275 [some (.ref x), a1, a2, a3] (.ref x :: S) h := exs rfl
set_option maxRecDepth 100000 in
theorem L_law_275 {d : Nat} {S : List Value} {h : kH} {a0 a1 a2 : Option Value} {x : Int32} : ex d mL_law 275 [a0, a1, a2, some (.int x)] S h = ex d mL_law 276 [a0, a1, a2, some (.int x)] (.int x :: S) h := exs rfl
set_option maxRecDepth 100000 in
theorem L_law_276 {d : Nat} {L : kL} {S : List Value} {h : kH} : ex d mL_law 276 L S h = ex d mL_law 277 L (.int 3 :: S) h := exs rfl
set_option maxRecDepth 100000 in
theorem L_law_277 {d : Nat} {L : kL} {S : List Value} {h : kH} {x y : Int32} : ex d mL_law 277 L (.int y :: .int x :: S) h = ex d mL_law 278 L (.int (x + y) :: S) h := exs rfl
set_option maxRecDepth 100000 in
theorem L_law_278 {d : Nat} {L : kL} {S : List Value} {h : kH} {q : Nat} {i : Int32} : ex d mL_law 278 L (.int i :: .ref q :: S) h = (kil h q i).bind fun v => ex d mL_law 279 L (.int v :: S) h := exb (F := fun v => .int v :: S) (G := fun _ => h) rfl
set_option maxRecDepth 100000 in
theorem L_law_279 {d : Nat} {L : kL} {h : kH} {v0 : Int32} {v1 : Int32} {v2 : Int32} {q : Nat} : ex d mL_law 279 L [.int v2, .int v1, .int v0, .ref q] h = if kis h 12 q = true then (rn d mX11_bearing [.ref q, .int v0, .int v1, .int v2] h).bind fun r => ex d mL_law 282 L (r.1.toList ++ []) r.2 else none := exv rfl (Nat.le_of_ble_eq_true rfl)
set_option maxRecDepth 100000 in
theorem L_law_282 {d : Nat} {S : List Value} {h : kH} {a0 a1 a3 : Option Value} {x : Nat} : ex d mL_law 282 [a0, a1, some (.ref x), a3] S h = ex d mL_law 283 [a0, a1, some (.ref x), a3] (.ref x :: S) h := exs rfl
set_option maxRecDepth 100000 in
theorem L_law_283 {d : Nat} {S : List Value} {h : kH} {a1 a2 a3 : Option Value} {x : Nat} : ex d mL_law 283 [some (.ref x), a1, a2, a3] S h = ex d mL_law 284 [some (.ref x), a1, a2, a3] (.ref x :: S) h := exs rfl
set_option maxRecDepth 100000 in
theorem L_law_284 {d : Nat} {S : List Value} {h : kH} {a0 a1 a2 : Option Value} {x : Int32} : ex d mL_law 284 [a0, a1, a2, some (.int x)] S h = ex d mL_law 285 [a0, a1, a2, some (.int x)] (.int x :: S) h := exs rfl
set_option maxRecDepth 100000 in
theorem L_law_285 {d : Nat} {L : kL} {S : List Value} {h : kH} : ex d mL_law 285 L S h = ex d mL_law 286 L (.int 1 :: S) h := exs rfl
set_option maxRecDepth 100000 in
theorem L_law_286 {d : Nat} {L : kL} {S : List Value} {h : kH} {x y : Int32} : ex d mL_law 286 L (.int y :: .int x :: S) h = ex d mL_law 287 L (.int (x + y) :: S) h := exs rfl
set_option maxRecDepth 100000 in
theorem L_law_287 {d : Nat} {L : kL} {S : List Value} {h : kH} {q : Nat} {i : Int32} : ex d mL_law 287 L (.int i :: .ref q :: S) h = (kil h q i).bind fun v => ex d mL_law 288 L (.int v :: S) h := exb (F := fun v => .int v :: S) (G := fun _ => h) rfl
set_option maxRecDepth 100000 in
theorem L_law_288 {d : Nat} {S : List Value} {h : kH} {a1 a2 a3 : Option Value} {x : Nat} : ex d mL_law 288 [some (.ref x), a1, a2, a3] S h = ex d mL_law 289 [some (.ref x), a1, a2, a3] (.ref x :: S) h := exs rfl
set_option maxRecDepth 100000 in
theorem L_law_289 {d : Nat} {S : List Value} {h : kH} {a0 a1 a2 : Option Value} {x : Int32} : ex d mL_law 289 [a0, a1, a2, some (.int x)] S h = ex d mL_law 290 [a0, a1, a2, some (.int x)] (.int x :: S) h := exs rfl
set_option maxRecDepth 100000 in
theorem L_law_290 {d : Nat} {L : kL} {S : List Value} {h : kH} : ex d mL_law 290 L S h = ex d mL_law 291 L (.int 2 :: S) h := exs rfl
set_option maxRecDepth 100000 in
theorem L_law_291 {d : Nat} {L : kL} {S : List Value} {h : kH} {x y : Int32} : ex d mL_law 291 L (.int y :: .int x :: S) h = ex d mL_law 292 L (.int (x + y) :: S) h := exs rfl
set_option maxRecDepth 100000 in
theorem L_law_292 {d : Nat} {L : kL} {S : List Value} {h : kH} {q : Nat} {i : Int32} : ex d mL_law 292 L (.int i :: .ref q :: S) h = (kil h q i).bind fun v => ex d mL_law 293 L (.int v :: S) h := exb (F := fun v => .int v :: S) (G := fun _ => h) rfl
set_option maxRecDepth 100000 in
theorem L_law_293 {d : Nat} {S : List Value} {h : kH} {a1 a2 a3 : Option Value} {x : Nat} : ex d mL_law 293 [some (.ref x), a1, a2, a3] S h = ex d mL_law 294 [some (.ref x), a1, a2, a3] (.ref x :: S) h := exs rfl
set_option maxRecDepth 100000 in
theorem L_law_294 {d : Nat} {S : List Value} {h : kH} {a0 a1 a2 : Option Value} {x : Int32} : ex d mL_law 294 [a0, a1, a2, some (.int x)] S h = ex d mL_law 295 [a0, a1, a2, some (.int x)] (.int x :: S) h := exs rfl
set_option maxRecDepth 100000 in
theorem L_law_295 {d : Nat} {L : kL} {S : List Value} {h : kH} : ex d mL_law 295 L S h = ex d mL_law 296 L (.int 3 :: S) h := exs rfl
set_option maxRecDepth 100000 in
theorem L_law_296 {d : Nat} {L : kL} {S : List Value} {h : kH} {x y : Int32} : ex d mL_law 296 L (.int y :: .int x :: S) h = ex d mL_law 297 L (.int (x + y) :: S) h := exs rfl
set_option maxRecDepth 100000 in
theorem L_law_297 {d : Nat} {L : kL} {S : List Value} {h : kH} {q : Nat} {i : Int32} : ex d mL_law 297 L (.int i :: .ref q :: S) h = (kil h q i).bind fun v => ex d mL_law 298 L (.int v :: S) h := exb (F := fun v => .int v :: S) (G := fun _ => h) rfl
set_option maxRecDepth 100000 in
theorem L_law_298 {d : Nat} {L : kL} {h : kH} {v0 : Int32} {v1 : Int32} {v2 : Int32} {r0 : Int32} {q : Nat} : ex d mL_law 298 L [.int v2, .int v1, .int v0, .ref q, .int r0] h = if kis h 13 q = true then (rn d mX12_bearing [.ref q, .int v0, .int v1, .int v2] h).bind fun r => ex d mL_law 301 L (r.1.toList ++ [.int r0]) r.2 else none := exv rfl (Nat.le_of_ble_eq_true rfl)
set_option maxRecDepth 100000 in
theorem L_law_301 {d : Nat} {L : kL} {S : List Value} {h : kH} {x y : Int32} : ex d mL_law 301 L (.int y :: .int x :: S) h = if x = y then ex d mL_law 1506 L S h else ex d mL_law 304 L S h := exc rfl
set_option maxRecDepth 100000 in
theorem L_law_304 {d : Nat} {L : kL} {S : List Value} {h : kH} : ex d mL_law 304 L S h = ex d mL_law 305 L (.int 0 :: S) h := exs rfl
set_option maxRecDepth 100000 in
theorem L_law_305_0 {d : Nat} {L : kL} {h : kH} : ex d mL_law 305 L [.int 0] h = some (some (.int 0), h) := exr rfl
set_option maxRecDepth 100000 in
theorem L_law_305_1 {d : Nat} {L : kL} {h : kH} : ex d mL_law 305 L [.int 1] h = some (some (.int 1), h) := exr rfl
set_option maxRecDepth 100000 in
theorem L_law_305 {d : Nat} {L : kL} {h : kH} {v : Int32} (hv : v = 0 ∨ v = 1) : ex d mL_law 305 L [.int v] h = some (some (.int v), h) := by rcases hv with rfl | rfl <;> exact exr rfl
set_option maxRecDepth 100000 in
theorem L_law_306 {d : Nat} {S : List Value} {h : kH} {a0 a2 a3 : Option Value} {x : Nat} : ex d mL_law 306 [a0, some (.ref x), a2, a3] S h = ex d mL_law 307 [a0, some (.ref x), a2, a3] (.ref x :: S) h := exs rfl
set_option maxRecDepth 100000 in
theorem L_law_307 {d : Nat} {S : List Value} {h : kH} {a1 a2 a3 : Option Value} {x : Nat} : ex d mL_law 307 [some (.ref x), a1, a2, a3] S h = ex d mL_law 308 [some (.ref x), a1, a2, a3] (.ref x :: S) h := exs rfl
set_option maxRecDepth 100000 in
theorem L_law_308 {d : Nat} {S : List Value} {h : kH} {a0 a1 a2 : Option Value} {x : Int32} : ex d mL_law 308 [a0, a1, a2, some (.int x)] S h = ex d mL_law 309 [a0, a1, a2, some (.int x)] (.int x :: S) h := exs rfl
set_option maxRecDepth 100000 in
theorem L_law_309 {d : Nat} {L : kL} {S : List Value} {h : kH} : ex d mL_law 309 L S h = ex d mL_law 310 L (.int 1 :: S) h := exs rfl
set_option maxRecDepth 100000 in
theorem L_law_310 {d : Nat} {L : kL} {S : List Value} {h : kH} {x y : Int32} : ex d mL_law 310 L (.int y :: .int x :: S) h = ex d mL_law 311 L (.int (x + y) :: S) h := exs rfl
set_option maxRecDepth 100000 in
theorem L_law_311 {d : Nat} {L : kL} {S : List Value} {h : kH} {q : Nat} {i : Int32} : ex d mL_law 311 L (.int i :: .ref q :: S) h = (kil h q i).bind fun v => ex d mL_law 312 L (.int v :: S) h := exb (F := fun v => .int v :: S) (G := fun _ => h) rfl
set_option maxRecDepth 100000 in
theorem L_law_312 {d : Nat} {L : kL} {h : kH} {v0 : Int32} {q : Nat} : ex d mL_law 312 L [.int v0, .ref q] h = if kis h 12 q = true then (rn d mX11_turn [.ref q, .int v0] h).bind fun r => ex d mL_law 315 L (r.1.toList ++ []) r.2 else none := exv rfl (Nat.le_of_ble_eq_true rfl)
set_option maxRecDepth 100000 in
theorem L_law_315 {d : Nat} {S : List Value} {h : kH} {a0 a1 a3 : Option Value} {x : Nat} : ex d mL_law 315 [a0, a1, some (.ref x), a3] S h = ex d mL_law 316 [a0, a1, some (.ref x), a3] (.ref x :: S) h := exs rfl
set_option maxRecDepth 100000 in
theorem L_law_316 {d : Nat} {S : List Value} {h : kH} {a1 a2 a3 : Option Value} {x : Nat} : ex d mL_law 316 [some (.ref x), a1, a2, a3] S h = ex d mL_law 317 [some (.ref x), a1, a2, a3] (.ref x :: S) h := exs rfl
set_option maxRecDepth 100000 in
theorem L_law_317 {d : Nat} {S : List Value} {h : kH} {a0 a1 a2 : Option Value} {x : Int32} : ex d mL_law 317 [a0, a1, a2, some (.int x)] S h = ex d mL_law 318 [a0, a1, a2, some (.int x)] (.int x :: S) h := exs rfl
set_option maxRecDepth 100000 in
theorem L_law_318 {d : Nat} {L : kL} {S : List Value} {h : kH} : ex d mL_law 318 L S h = ex d mL_law 319 L (.int 1 :: S) h := exs rfl
set_option maxRecDepth 100000 in
theorem L_law_319 {d : Nat} {L : kL} {S : List Value} {h : kH} {x y : Int32} : ex d mL_law 319 L (.int y :: .int x :: S) h = ex d mL_law 320 L (.int (x + y) :: S) h := exs rfl
set_option maxRecDepth 100000 in
theorem L_law_320 {d : Nat} {L : kL} {S : List Value} {h : kH} {q : Nat} {i : Int32} : ex d mL_law 320 L (.int i :: .ref q :: S) h = (kil h q i).bind fun v => ex d mL_law 321 L (.int v :: S) h := exb (F := fun v => .int v :: S) (G := fun _ => h) rfl
set_option maxRecDepth 100000 in
theorem L_law_321 {d : Nat} {L : kL} {h : kH} {v0 : Int32} {r0 : Int32} {q : Nat} : ex d mL_law 321 L [.int v0, .ref q, .int r0] h = if kis h 13 q = true then (rn d mX12_turn [.ref q, .int v0] h).bind fun r => ex d mL_law 324 L (r.1.toList ++ [.int r0]) r.2 else none := exv rfl (Nat.le_of_ble_eq_true rfl)
set_option maxRecDepth 100000 in
theorem L_law_324 {d : Nat} {L : kL} {S : List Value} {h : kH} {x y : Int32} : ex d mL_law 324 L (.int y :: .int x :: S) h = if x = y then ex d mL_law 1506 L S h else ex d mL_law 327 L S h := exc rfl
set_option maxRecDepth 100000 in
theorem L_law_327 {d : Nat} {L : kL} {S : List Value} {h : kH} : ex d mL_law 327 L S h = ex d mL_law 328 L (.int 0 :: S) h := exs rfl
set_option maxRecDepth 100000 in
theorem L_law_328_0 {d : Nat} {L : kL} {h : kH} : ex d mL_law 328 L [.int 0] h = some (some (.int 0), h) := exr rfl
set_option maxRecDepth 100000 in
theorem L_law_328_1 {d : Nat} {L : kL} {h : kH} : ex d mL_law 328 L [.int 1] h = some (some (.int 1), h) := exr rfl
set_option maxRecDepth 100000 in
theorem L_law_328 {d : Nat} {L : kL} {h : kH} {v : Int32} (hv : v = 0 ∨ v = 1) : ex d mL_law 328 L [.int v] h = some (some (.int v), h) := by rcases hv with rfl | rfl <;> exact exr rfl
set_option maxRecDepth 100000 in
theorem L_law_329 {d : Nat} {S : List Value} {h : kH} {a0 a2 a3 : Option Value} {x : Nat} : ex d mL_law 329 [a0, some (.ref x), a2, a3] S h = ex d mL_law 330 [a0, some (.ref x), a2, a3] (.ref x :: S) h := exs rfl
set_option maxRecDepth 100000 in
theorem L_law_330 {d : Nat} {S : List Value} {h : kH} {a1 a2 a3 : Option Value} {x : Nat} : ex d mL_law 330 [some (.ref x), a1, a2, a3] S h = ex d mL_law 331 [some (.ref x), a1, a2, a3] (.ref x :: S) h := exs rfl
set_option maxRecDepth 100000 in
theorem L_law_331 {d : Nat} {S : List Value} {h : kH} {a0 a1 a2 : Option Value} {x : Int32} : ex d mL_law 331 [a0, a1, a2, some (.int x)] S h = ex d mL_law 332 [a0, a1, a2, some (.int x)] (.int x :: S) h := exs rfl
set_option maxRecDepth 100000 in
theorem L_law_332 {d : Nat} {L : kL} {S : List Value} {h : kH} : ex d mL_law 332 L S h = ex d mL_law 333 L (.int 1 :: S) h := exs rfl
set_option maxRecDepth 100000 in
theorem L_law_333 {d : Nat} {L : kL} {S : List Value} {h : kH} {x y : Int32} : ex d mL_law 333 L (.int y :: .int x :: S) h = ex d mL_law 334 L (.int (x + y) :: S) h := exs rfl
set_option maxRecDepth 100000 in
theorem L_law_334 {d : Nat} {L : kL} {S : List Value} {h : kH} {q : Nat} {i : Int32} : ex d mL_law 334 L (.int i :: .ref q :: S) h = (kil h q i).bind fun v => ex d mL_law 335 L (.int v :: S) h := exb (F := fun v => .int v :: S) (G := fun _ => h) rfl
set_option maxRecDepth 100000 in
theorem L_law_335 {d : Nat} {L : kL} {h : kH} {v0 : Int32} {q : Nat} : ex d mL_law 335 L [.int v0, .ref q] h = if kis h 12 q = true then (rn d mX11_speeds [.ref q, .int v0] h).bind fun r => ex d mL_law 338 L (r.1.toList ++ []) r.2 else none := exv rfl (Nat.le_of_ble_eq_true rfl)
set_option maxRecDepth 100000 in
theorem L_law_338 {d : Nat} {S : List Value} {h : kH} {a0 a1 a3 : Option Value} {x : Nat} : ex d mL_law 338 [a0, a1, some (.ref x), a3] S h = ex d mL_law 339 [a0, a1, some (.ref x), a3] (.ref x :: S) h := exs rfl
set_option maxRecDepth 100000 in
theorem L_law_339 {d : Nat} {S : List Value} {h : kH} {a1 a2 a3 : Option Value} {x : Nat} : ex d mL_law 339 [some (.ref x), a1, a2, a3] S h = ex d mL_law 340 [some (.ref x), a1, a2, a3] (.ref x :: S) h := exs rfl
set_option maxRecDepth 100000 in
theorem L_law_340 {d : Nat} {S : List Value} {h : kH} {a0 a1 a2 : Option Value} {x : Int32} : ex d mL_law 340 [a0, a1, a2, some (.int x)] S h = ex d mL_law 341 [a0, a1, a2, some (.int x)] (.int x :: S) h := exs rfl
set_option maxRecDepth 100000 in
theorem L_law_341 {d : Nat} {L : kL} {S : List Value} {h : kH} : ex d mL_law 341 L S h = ex d mL_law 342 L (.int 1 :: S) h := exs rfl
set_option maxRecDepth 100000 in
theorem L_law_342 {d : Nat} {L : kL} {S : List Value} {h : kH} {x y : Int32} : ex d mL_law 342 L (.int y :: .int x :: S) h = ex d mL_law 343 L (.int (x + y) :: S) h := exs rfl
set_option maxRecDepth 100000 in
theorem L_law_343 {d : Nat} {L : kL} {S : List Value} {h : kH} {q : Nat} {i : Int32} : ex d mL_law 343 L (.int i :: .ref q :: S) h = (kil h q i).bind fun v => ex d mL_law 344 L (.int v :: S) h := exb (F := fun v => .int v :: S) (G := fun _ => h) rfl
set_option maxRecDepth 100000 in
theorem L_law_344 {d : Nat} {L : kL} {h : kH} {v0 : Int32} {r0 : Int32} {q : Nat} : ex d mL_law 344 L [.int v0, .ref q, .int r0] h = if kis h 13 q = true then (rn d mX12_speeds [.ref q, .int v0] h).bind fun r => ex d mL_law 347 L (r.1.toList ++ [.int r0]) r.2 else none := exv rfl (Nat.le_of_ble_eq_true rfl)
set_option maxRecDepth 100000 in
theorem L_law_347 {d : Nat} {L : kL} {S : List Value} {h : kH} {x y : Int32} : ex d mL_law 347 L (.int y :: .int x :: S) h = if x = y then ex d mL_law 1506 L S h else ex d mL_law 350 L S h := exc rfl
set_option maxRecDepth 100000 in
theorem L_law_350 {d : Nat} {L : kL} {S : List Value} {h : kH} : ex d mL_law 350 L S h = ex d mL_law 351 L (.int 0 :: S) h := exs rfl
set_option maxRecDepth 100000 in
theorem L_law_351_0 {d : Nat} {L : kL} {h : kH} : ex d mL_law 351 L [.int 0] h = some (some (.int 0), h) := exr rfl
set_option maxRecDepth 100000 in
theorem L_law_351_1 {d : Nat} {L : kL} {h : kH} : ex d mL_law 351 L [.int 1] h = some (some (.int 1), h) := exr rfl
set_option maxRecDepth 100000 in
theorem L_law_351 {d : Nat} {L : kL} {h : kH} {v : Int32} (hv : v = 0 ∨ v = 1) : ex d mL_law 351 L [.int v] h = some (some (.int v), h) := by rcases hv with rfl | rfl <;> exact exr rfl
set_option maxRecDepth 100000 in
theorem L_law_352 {d : Nat} {S : List Value} {h : kH} {a0 a2 a3 : Option Value} {x : Nat} : ex d mL_law 352 [a0, some (.ref x), a2, a3] S h = ex d mL_law 353 [a0, some (.ref x), a2, a3] (.ref x :: S) h := exs rfl
set_option maxRecDepth 100000 in
theorem L_law_353 {d : Nat} {S : List Value} {h : kH} {a1 a2 a3 : Option Value} {x : Nat} : ex d mL_law 353 [some (.ref x), a1, a2, a3] S h = ex d mL_law 354 [some (.ref x), a1, a2, a3] (.ref x :: S) h := exs rfl
set_option maxRecDepth 100000 in
theorem L_law_354 {d : Nat} {S : List Value} {h : kH} {a0 a1 a2 : Option Value} {x : Int32} : ex d mL_law 354 [a0, a1, a2, some (.int x)] S h = ex d mL_law 355 [a0, a1, a2, some (.int x)] (.int x :: S) h := exs rfl
set_option maxRecDepth 100000 in
theorem L_law_355 {d : Nat} {L : kL} {S : List Value} {h : kH} : ex d mL_law 355 L S h = ex d mL_law 356 L (.int 1 :: S) h := exs rfl
set_option maxRecDepth 100000 in
theorem L_law_356 {d : Nat} {L : kL} {S : List Value} {h : kH} {x y : Int32} : ex d mL_law 356 L (.int y :: .int x :: S) h = ex d mL_law 357 L (.int (x + y) :: S) h := exs rfl
set_option maxRecDepth 100000 in
theorem L_law_357 {d : Nat} {L : kL} {S : List Value} {h : kH} {q : Nat} {i : Int32} : ex d mL_law 357 L (.int i :: .ref q :: S) h = (kil h q i).bind fun v => ex d mL_law 358 L (.int v :: S) h := exb (F := fun v => .int v :: S) (G := fun _ => h) rfl
set_option maxRecDepth 100000 in
theorem L_law_358 {d : Nat} {L : kL} {h : kH} {v0 : Int32} {q : Nat} : ex d mL_law 358 L [.int v0, .ref q] h = if kis h 12 q = true then (rn d mX11_angle [.ref q, .int v0] h).bind fun r => ex d mL_law 361 L (r.1.toList ++ []) r.2 else none := exv rfl (Nat.le_of_ble_eq_true rfl)
set_option maxRecDepth 100000 in
theorem L_law_361 {d : Nat} {S : List Value} {h : kH} {a0 a1 a3 : Option Value} {x : Nat} : ex d mL_law 361 [a0, a1, some (.ref x), a3] S h = ex d mL_law 362 [a0, a1, some (.ref x), a3] (.ref x :: S) h := exs rfl
set_option maxRecDepth 100000 in
theorem L_law_362 {d : Nat} {S : List Value} {h : kH} {a1 a2 a3 : Option Value} {x : Nat} : ex d mL_law 362 [some (.ref x), a1, a2, a3] S h = ex d mL_law 363 [some (.ref x), a1, a2, a3] (.ref x :: S) h := exs rfl
set_option maxRecDepth 100000 in
theorem L_law_363 {d : Nat} {S : List Value} {h : kH} {a0 a1 a2 : Option Value} {x : Int32} : ex d mL_law 363 [a0, a1, a2, some (.int x)] S h = ex d mL_law 364 [a0, a1, a2, some (.int x)] (.int x :: S) h := exs rfl
set_option maxRecDepth 100000 in
theorem L_law_364 {d : Nat} {L : kL} {S : List Value} {h : kH} : ex d mL_law 364 L S h = ex d mL_law 365 L (.int 1 :: S) h := exs rfl
set_option maxRecDepth 100000 in
theorem L_law_365 {d : Nat} {L : kL} {S : List Value} {h : kH} {x y : Int32} : ex d mL_law 365 L (.int y :: .int x :: S) h = ex d mL_law 366 L (.int (x + y) :: S) h := exs rfl
set_option maxRecDepth 100000 in
theorem L_law_366 {d : Nat} {L : kL} {S : List Value} {h : kH} {q : Nat} {i : Int32} : ex d mL_law 366 L (.int i :: .ref q :: S) h = (kil h q i).bind fun v => ex d mL_law 367 L (.int v :: S) h := exb (F := fun v => .int v :: S) (G := fun _ => h) rfl
set_option maxRecDepth 100000 in
theorem L_law_367 {d : Nat} {L : kL} {h : kH} {v0 : Int32} {r0 : Int64} {q : Nat} : ex d mL_law 367 L [.int v0, .ref q, .long r0] h = if kis h 13 q = true then (rn d mX12_angle [.ref q, .int v0] h).bind fun r => ex d mL_law 370 L (r.1.toList ++ [.long r0]) r.2 else none := exv rfl (Nat.le_of_ble_eq_true rfl)
set_option maxRecDepth 100000 in
theorem L_law_370 {d : Nat} {L : kL} {S : List Value} {h : kH} {x y : Int64} : ex d mL_law 370 L (.long y :: .long x :: S) h = ex d mL_law 371 L (.int (lg_cmp x y) :: S) h := exs rfl
set_option maxRecDepth 100000 in
theorem L_law_371 {d : Nat} {L : kL} {S : List Value} {h : kH} {x : Int32} : ex d mL_law 371 L (.int x :: S) h = if x = 0 then ex d mL_law 1506 L S h else ex d mL_law 374 L S h := exc rfl
set_option maxRecDepth 100000 in
theorem L_law_374 {d : Nat} {L : kL} {S : List Value} {h : kH} : ex d mL_law 374 L S h = ex d mL_law 375 L (.int 0 :: S) h := exs rfl
set_option maxRecDepth 100000 in
theorem L_law_375_0 {d : Nat} {L : kL} {h : kH} : ex d mL_law 375 L [.int 0] h = some (some (.int 0), h) := exr rfl
set_option maxRecDepth 100000 in
theorem L_law_375_1 {d : Nat} {L : kL} {h : kH} : ex d mL_law 375 L [.int 1] h = some (some (.int 1), h) := exr rfl
set_option maxRecDepth 100000 in
theorem L_law_375 {d : Nat} {L : kL} {h : kH} {v : Int32} (hv : v = 0 ∨ v = 1) : ex d mL_law 375 L [.int v] h = some (some (.int v), h) := by rcases hv with rfl | rfl <;> exact exr rfl
set_option maxRecDepth 100000 in
theorem L_law_376 {d : Nat} {S : List Value} {h : kH} {a0 a2 a3 : Option Value} {x : Nat} : ex d mL_law 376 [a0, some (.ref x), a2, a3] S h = ex d mL_law 377 [a0, some (.ref x), a2, a3] (.ref x :: S) h := exs rfl
set_option maxRecDepth 100000 in
theorem L_law_377 {d : Nat} {S : List Value} {h : kH} {a1 a2 a3 : Option Value} {x : Nat} : ex d mL_law 377 [some (.ref x), a1, a2, a3] S h = ex d mL_law 378 [some (.ref x), a1, a2, a3] (.ref x :: S) h := exs rfl
set_option maxRecDepth 100000 in
theorem L_law_378 {d : Nat} {S : List Value} {h : kH} {a0 a1 a2 : Option Value} {x : Int32} : ex d mL_law 378 [a0, a1, a2, some (.int x)] S h = ex d mL_law 379 [a0, a1, a2, some (.int x)] (.int x :: S) h := exs rfl
set_option maxRecDepth 100000 in
theorem L_law_379 {d : Nat} {L : kL} {S : List Value} {h : kH} : ex d mL_law 379 L S h = ex d mL_law 380 L (.int 1 :: S) h := exs rfl
set_option maxRecDepth 100000 in
theorem L_law_380 {d : Nat} {L : kL} {S : List Value} {h : kH} {x y : Int32} : ex d mL_law 380 L (.int y :: .int x :: S) h = ex d mL_law 381 L (.int (x + y) :: S) h := exs rfl
set_option maxRecDepth 100000 in
theorem L_law_381 {d : Nat} {L : kL} {S : List Value} {h : kH} {q : Nat} {i : Int32} : ex d mL_law 381 L (.int i :: .ref q :: S) h = (kil h q i).bind fun v => ex d mL_law 382 L (.int v :: S) h := exb (F := fun v => .int v :: S) (G := fun _ => h) rfl
set_option maxRecDepth 100000 in
theorem L_law_382 {d : Nat} {L : kL} {h : kH} {v0 : Int32} {q : Nat} : ex d mL_law 382 L [.int v0, .ref q] h = if kis h 12 q = true then (rn d mX11_trace [.ref q, .int v0] h).bind fun r => ex d mL_law 385 L (r.1.toList ++ []) r.2 else none := exv rfl (Nat.le_of_ble_eq_true rfl)
set_option maxRecDepth 100000 in
theorem L_law_385 {d : Nat} {S : List Value} {h : kH} {a0 a1 a3 : Option Value} {x : Nat} : ex d mL_law 385 [a0, a1, some (.ref x), a3] S h = ex d mL_law 386 [a0, a1, some (.ref x), a3] (.ref x :: S) h := exs rfl
set_option maxRecDepth 100000 in
theorem L_law_386 {d : Nat} {S : List Value} {h : kH} {a1 a2 a3 : Option Value} {x : Nat} : ex d mL_law 386 [some (.ref x), a1, a2, a3] S h = ex d mL_law 387 [some (.ref x), a1, a2, a3] (.ref x :: S) h := exs rfl
set_option maxRecDepth 100000 in
theorem L_law_387 {d : Nat} {S : List Value} {h : kH} {a0 a1 a2 : Option Value} {x : Int32} : ex d mL_law 387 [a0, a1, a2, some (.int x)] S h = ex d mL_law 388 [a0, a1, a2, some (.int x)] (.int x :: S) h := exs rfl
set_option maxRecDepth 100000 in
theorem L_law_388 {d : Nat} {L : kL} {S : List Value} {h : kH} : ex d mL_law 388 L S h = ex d mL_law 389 L (.int 1 :: S) h := exs rfl
set_option maxRecDepth 100000 in
theorem L_law_389 {d : Nat} {L : kL} {S : List Value} {h : kH} {x y : Int32} : ex d mL_law 389 L (.int y :: .int x :: S) h = ex d mL_law 390 L (.int (x + y) :: S) h := exs rfl
set_option maxRecDepth 100000 in
theorem L_law_390 {d : Nat} {L : kL} {S : List Value} {h : kH} {q : Nat} {i : Int32} : ex d mL_law 390 L (.int i :: .ref q :: S) h = (kil h q i).bind fun v => ex d mL_law 391 L (.int v :: S) h := exb (F := fun v => .int v :: S) (G := fun _ => h) rfl
set_option maxRecDepth 100000 in
theorem L_law_391 {d : Nat} {L : kL} {h : kH} {v0 : Int32} {r0 : Int32} {q : Nat} : ex d mL_law 391 L [.int v0, .ref q, .int r0] h = if kis h 13 q = true then (rn d mX12_trace [.ref q, .int v0] h).bind fun r => ex d mL_law 394 L (r.1.toList ++ [.int r0]) r.2 else none := exv rfl (Nat.le_of_ble_eq_true rfl)
set_option maxRecDepth 100000 in
theorem L_law_394 {d : Nat} {L : kL} {S : List Value} {h : kH} {x y : Int32} : ex d mL_law 394 L (.int y :: .int x :: S) h = if x = y then ex d mL_law 1506 L S h else ex d mL_law 397 L S h := exc rfl
set_option maxRecDepth 100000 in
theorem L_law_397 {d : Nat} {L : kL} {S : List Value} {h : kH} : ex d mL_law 397 L S h = ex d mL_law 398 L (.int 0 :: S) h := exs rfl
set_option maxRecDepth 100000 in
theorem L_law_398_0 {d : Nat} {L : kL} {h : kH} : ex d mL_law 398 L [.int 0] h = some (some (.int 0), h) := exr rfl
set_option maxRecDepth 100000 in
theorem L_law_398_1 {d : Nat} {L : kL} {h : kH} : ex d mL_law 398 L [.int 1] h = some (some (.int 1), h) := exr rfl
set_option maxRecDepth 100000 in
theorem L_law_398 {d : Nat} {L : kL} {h : kH} {v : Int32} (hv : v = 0 ∨ v = 1) : ex d mL_law 398 L [.int v] h = some (some (.int v), h) := by rcases hv with rfl | rfl <;> exact exr rfl
set_option maxRecDepth 100000 in
theorem L_law_399 {d : Nat} {S : List Value} {h : kH} {a0 a2 a3 : Option Value} {x : Nat} : ex d mL_law 399 [a0, some (.ref x), a2, a3] S h = ex d mL_law 400 [a0, some (.ref x), a2, a3] (.ref x :: S) h := exs rfl
set_option maxRecDepth 100000 in
theorem L_law_400 {d : Nat} {S : List Value} {h : kH} {a1 a2 a3 : Option Value} {x : Nat} : ex d mL_law 400 [some (.ref x), a1, a2, a3] S h = ex d mL_law 401 [some (.ref x), a1, a2, a3] (.ref x :: S) h := exs rfl
set_option maxRecDepth 100000 in
theorem L_law_401 {d : Nat} {S : List Value} {h : kH} {a0 a1 a2 : Option Value} {x : Int32} : ex d mL_law 401 [a0, a1, a2, some (.int x)] S h = ex d mL_law 402 [a0, a1, a2, some (.int x)] (.int x :: S) h := exs rfl
set_option maxRecDepth 100000 in
theorem L_law_402 {d : Nat} {L : kL} {S : List Value} {h : kH} : ex d mL_law 402 L S h = ex d mL_law 403 L (.int 1 :: S) h := exs rfl
set_option maxRecDepth 100000 in
theorem L_law_403 {d : Nat} {L : kL} {S : List Value} {h : kH} {x y : Int32} : ex d mL_law 403 L (.int y :: .int x :: S) h = ex d mL_law 404 L (.int (x + y) :: S) h := exs rfl
set_option maxRecDepth 100000 in
theorem L_law_404 {d : Nat} {L : kL} {S : List Value} {h : kH} {q : Nat} {i : Int32} : ex d mL_law 404 L (.int i :: .ref q :: S) h = (kil h q i).bind fun v => ex d mL_law 405 L (.int v :: S) h := exb (F := fun v => .int v :: S) (G := fun _ => h) rfl
set_option maxRecDepth 100000 in
theorem L_law_405 {d : Nat} {L : kL} {h : kH} {v0 : Int32} {q : Nat} : ex d mL_law 405 L [.int v0, .ref q] h = if kis h 12 q = true then (rn d mX11_filters [.ref q, .int v0] h).bind fun r => ex d mL_law 408 L (r.1.toList ++ []) r.2 else none := exv rfl (Nat.le_of_ble_eq_true rfl)
set_option maxRecDepth 100000 in
theorem L_law_408 {d : Nat} {S : List Value} {h : kH} {a0 a1 a3 : Option Value} {x : Nat} : ex d mL_law 408 [a0, a1, some (.ref x), a3] S h = ex d mL_law 409 [a0, a1, some (.ref x), a3] (.ref x :: S) h := exs rfl
set_option maxRecDepth 100000 in
theorem L_law_409 {d : Nat} {S : List Value} {h : kH} {a1 a2 a3 : Option Value} {x : Nat} : ex d mL_law 409 [some (.ref x), a1, a2, a3] S h = ex d mL_law 410 [some (.ref x), a1, a2, a3] (.ref x :: S) h := exs rfl
set_option maxRecDepth 100000 in
theorem L_law_410 {d : Nat} {S : List Value} {h : kH} {a0 a1 a2 : Option Value} {x : Int32} : ex d mL_law 410 [a0, a1, a2, some (.int x)] S h = ex d mL_law 411 [a0, a1, a2, some (.int x)] (.int x :: S) h := exs rfl
set_option maxRecDepth 100000 in
theorem L_law_411 {d : Nat} {L : kL} {S : List Value} {h : kH} : ex d mL_law 411 L S h = ex d mL_law 412 L (.int 1 :: S) h := exs rfl
set_option maxRecDepth 100000 in
theorem L_law_412 {d : Nat} {L : kL} {S : List Value} {h : kH} {x y : Int32} : ex d mL_law 412 L (.int y :: .int x :: S) h = ex d mL_law 413 L (.int (x + y) :: S) h := exs rfl
set_option maxRecDepth 100000 in
theorem L_law_413 {d : Nat} {L : kL} {S : List Value} {h : kH} {q : Nat} {i : Int32} : ex d mL_law 413 L (.int i :: .ref q :: S) h = (kil h q i).bind fun v => ex d mL_law 414 L (.int v :: S) h := exb (F := fun v => .int v :: S) (G := fun _ => h) rfl
set_option maxRecDepth 100000 in
theorem L_law_414 {d : Nat} {L : kL} {h : kH} {v0 : Int32} {r0 : Int32} {q : Nat} : ex d mL_law 414 L [.int v0, .ref q, .int r0] h = if kis h 13 q = true then (rn d mX12_filters [.ref q, .int v0] h).bind fun r => ex d mL_law 417 L (r.1.toList ++ [.int r0]) r.2 else none := exv rfl (Nat.le_of_ble_eq_true rfl)
set_option maxRecDepth 100000 in
theorem L_law_417 {d : Nat} {L : kL} {S : List Value} {h : kH} {x y : Int32} : ex d mL_law 417 L (.int y :: .int x :: S) h = if x = y then ex d mL_law 1506 L S h else ex d mL_law 420 L S h := exc rfl
set_option maxRecDepth 100000 in
theorem L_law_420 {d : Nat} {L : kL} {S : List Value} {h : kH} : ex d mL_law 420 L S h = ex d mL_law 421 L (.int 0 :: S) h := exs rfl
set_option maxRecDepth 100000 in
theorem L_law_421_0 {d : Nat} {L : kL} {h : kH} : ex d mL_law 421 L [.int 0] h = some (some (.int 0), h) := exr rfl
set_option maxRecDepth 100000 in
theorem L_law_421_1 {d : Nat} {L : kL} {h : kH} : ex d mL_law 421 L [.int 1] h = some (some (.int 1), h) := exr rfl
set_option maxRecDepth 100000 in
theorem L_law_421 {d : Nat} {L : kL} {h : kH} {v : Int32} (hv : v = 0 ∨ v = 1) : ex d mL_law 421 L [.int v] h = some (some (.int v), h) := by rcases hv with rfl | rfl <;> exact exr rfl
set_option maxRecDepth 100000 in
theorem L_law_422 {d : Nat} {S : List Value} {h : kH} {a0 a2 a3 : Option Value} {x : Nat} : ex d mL_law 422 [a0, some (.ref x), a2, a3] S h = ex d mL_law 423 [a0, some (.ref x), a2, a3] (.ref x :: S) h := exs rfl
set_option maxRecDepth 100000 in
theorem L_law_423 {d : Nat} {S : List Value} {h : kH} {a1 a2 a3 : Option Value} {x : Nat} : ex d mL_law 423 [some (.ref x), a1, a2, a3] S h = ex d mL_law 424 [some (.ref x), a1, a2, a3] (.ref x :: S) h := exs rfl
set_option maxRecDepth 100000 in
theorem L_law_424 {d : Nat} {S : List Value} {h : kH} {a0 a1 a2 : Option Value} {x : Int32} : ex d mL_law 424 [a0, a1, a2, some (.int x)] S h = ex d mL_law 425 [a0, a1, a2, some (.int x)] (.int x :: S) h := exs rfl
set_option maxRecDepth 100000 in
theorem L_law_425 {d : Nat} {L : kL} {S : List Value} {h : kH} : ex d mL_law 425 L S h = ex d mL_law 426 L (.int 1 :: S) h := exs rfl
set_option maxRecDepth 100000 in
theorem L_law_426 {d : Nat} {L : kL} {S : List Value} {h : kH} {x y : Int32} : ex d mL_law 426 L (.int y :: .int x :: S) h = ex d mL_law 427 L (.int (x + y) :: S) h := exs rfl
set_option maxRecDepth 100000 in
theorem L_law_427 {d : Nat} {L : kL} {S : List Value} {h : kH} {q : Nat} {i : Int32} : ex d mL_law 427 L (.int i :: .ref q :: S) h = (kil h q i).bind fun v => ex d mL_law 428 L (.int v :: S) h := exb (F := fun v => .int v :: S) (G := fun _ => h) rfl
set_option maxRecDepth 100000 in
theorem L_law_428 {d : Nat} {S : List Value} {h : kH} {a1 a2 a3 : Option Value} {x : Nat} : ex d mL_law 428 [some (.ref x), a1, a2, a3] S h = ex d mL_law 429 [some (.ref x), a1, a2, a3] (.ref x :: S) h := exs rfl
set_option maxRecDepth 100000 in
theorem L_law_429 {d : Nat} {S : List Value} {h : kH} {a0 a1 a2 : Option Value} {x : Int32} : ex d mL_law 429 [a0, a1, a2, some (.int x)] S h = ex d mL_law 430 [a0, a1, a2, some (.int x)] (.int x :: S) h := exs rfl
set_option maxRecDepth 100000 in
theorem L_law_430 {d : Nat} {L : kL} {S : List Value} {h : kH} : ex d mL_law 430 L S h = ex d mL_law 431 L (.int 2 :: S) h := exs rfl
set_option maxRecDepth 100000 in
theorem L_law_431 {d : Nat} {L : kL} {S : List Value} {h : kH} {x y : Int32} : ex d mL_law 431 L (.int y :: .int x :: S) h = ex d mL_law 432 L (.int (x + y) :: S) h := exs rfl
set_option maxRecDepth 100000 in
theorem L_law_432 {d : Nat} {L : kL} {S : List Value} {h : kH} {q : Nat} {i : Int32} : ex d mL_law 432 L (.int i :: .ref q :: S) h = (kil h q i).bind fun v => ex d mL_law 433 L (.int v :: S) h := exb (F := fun v => .int v :: S) (G := fun _ => h) rfl
set_option maxRecDepth 100000 in
theorem L_law_433 {d : Nat} {L : kL} {h : kH} {v0 : Int32} {v1 : Int32} {q : Nat} : ex d mL_law 433 L [.int v1, .int v0, .ref q] h = if kis h 12 q = true then (rn d mX11_set [.ref q, .int v0, .int v1] h).bind fun r => ex d mL_law 436 L (r.1.toList ++ []) r.2 else none := exv rfl (Nat.le_of_ble_eq_true rfl)
set_option maxRecDepth 100000 in
theorem L_law_436 {d : Nat} {S : List Value} {h : kH} {a0 a1 a3 : Option Value} {x : Nat} : ex d mL_law 436 [a0, a1, some (.ref x), a3] S h = ex d mL_law 437 [a0, a1, some (.ref x), a3] (.ref x :: S) h := exs rfl
set_option maxRecDepth 100000 in
theorem L_law_437 {d : Nat} {S : List Value} {h : kH} {a1 a2 a3 : Option Value} {x : Nat} : ex d mL_law 437 [some (.ref x), a1, a2, a3] S h = ex d mL_law 438 [some (.ref x), a1, a2, a3] (.ref x :: S) h := exs rfl
set_option maxRecDepth 100000 in
theorem L_law_438 {d : Nat} {S : List Value} {h : kH} {a0 a1 a2 : Option Value} {x : Int32} : ex d mL_law 438 [a0, a1, a2, some (.int x)] S h = ex d mL_law 439 [a0, a1, a2, some (.int x)] (.int x :: S) h := exs rfl
set_option maxRecDepth 100000 in
theorem L_law_439 {d : Nat} {L : kL} {S : List Value} {h : kH} : ex d mL_law 439 L S h = ex d mL_law 440 L (.int 1 :: S) h := exs rfl
set_option maxRecDepth 100000 in
theorem L_law_440 {d : Nat} {L : kL} {S : List Value} {h : kH} {x y : Int32} : ex d mL_law 440 L (.int y :: .int x :: S) h = ex d mL_law 441 L (.int (x + y) :: S) h := exs rfl
set_option maxRecDepth 100000 in
theorem L_law_441 {d : Nat} {L : kL} {S : List Value} {h : kH} {q : Nat} {i : Int32} : ex d mL_law 441 L (.int i :: .ref q :: S) h = (kil h q i).bind fun v => ex d mL_law 442 L (.int v :: S) h := exb (F := fun v => .int v :: S) (G := fun _ => h) rfl
set_option maxRecDepth 100000 in
theorem L_law_442 {d : Nat} {S : List Value} {h : kH} {a1 a2 a3 : Option Value} {x : Nat} : ex d mL_law 442 [some (.ref x), a1, a2, a3] S h = ex d mL_law 443 [some (.ref x), a1, a2, a3] (.ref x :: S) h := exs rfl
set_option maxRecDepth 100000 in
theorem L_law_443 {d : Nat} {S : List Value} {h : kH} {a0 a1 a2 : Option Value} {x : Int32} : ex d mL_law 443 [a0, a1, a2, some (.int x)] S h = ex d mL_law 444 [a0, a1, a2, some (.int x)] (.int x :: S) h := exs rfl
set_option maxRecDepth 100000 in
theorem L_law_444 {d : Nat} {L : kL} {S : List Value} {h : kH} : ex d mL_law 444 L S h = ex d mL_law 445 L (.int 2 :: S) h := exs rfl
set_option maxRecDepth 100000 in
theorem L_law_445 {d : Nat} {L : kL} {S : List Value} {h : kH} {x y : Int32} : ex d mL_law 445 L (.int y :: .int x :: S) h = ex d mL_law 446 L (.int (x + y) :: S) h := exs rfl
set_option maxRecDepth 100000 in
theorem L_law_446 {d : Nat} {L : kL} {S : List Value} {h : kH} {q : Nat} {i : Int32} : ex d mL_law 446 L (.int i :: .ref q :: S) h = (kil h q i).bind fun v => ex d mL_law 447 L (.int v :: S) h := exb (F := fun v => .int v :: S) (G := fun _ => h) rfl
set_option maxRecDepth 100000 in
theorem L_law_447 {d : Nat} {L : kL} {h : kH} {v0 : Int32} {v1 : Int32} {r0 : Int32} {q : Nat} : ex d mL_law 447 L [.int v1, .int v0, .ref q, .int r0] h = if kis h 13 q = true then (rn d mX12_set [.ref q, .int v0, .int v1] h).bind fun r => ex d mL_law 450 L (r.1.toList ++ [.int r0]) r.2 else none := exv rfl (Nat.le_of_ble_eq_true rfl)
set_option maxRecDepth 100000 in
theorem L_law_450 {d : Nat} {L : kL} {S : List Value} {h : kH} {x y : Int32} : ex d mL_law 450 L (.int y :: .int x :: S) h = if x = y then ex d mL_law 1506 L S h else ex d mL_law 453 L S h := exc rfl
set_option maxRecDepth 100000 in
theorem L_law_453 {d : Nat} {L : kL} {S : List Value} {h : kH} : ex d mL_law 453 L S h = ex d mL_law 454 L (.int 0 :: S) h := exs rfl
set_option maxRecDepth 100000 in
theorem L_law_454_0 {d : Nat} {L : kL} {h : kH} : ex d mL_law 454 L [.int 0] h = some (some (.int 0), h) := exr rfl
set_option maxRecDepth 100000 in
theorem L_law_454_1 {d : Nat} {L : kL} {h : kH} : ex d mL_law 454 L [.int 1] h = some (some (.int 1), h) := exr rfl
set_option maxRecDepth 100000 in
theorem L_law_454 {d : Nat} {L : kL} {h : kH} {v : Int32} (hv : v = 0 ∨ v = 1) : ex d mL_law 454 L [.int v] h = some (some (.int v), h) := by rcases hv with rfl | rfl <;> exact exr rfl
set_option maxRecDepth 100000 in
theorem L_law_455 {d : Nat} {S : List Value} {h : kH} {a0 a2 a3 : Option Value} {x : Nat} : ex d mL_law 455 [a0, some (.ref x), a2, a3] S h = ex d mL_law 456 [a0, some (.ref x), a2, a3] (.ref x :: S) h := exs rfl
set_option maxRecDepth 100000 in
theorem L_law_456 {d : Nat} {S : List Value} {h : kH} {a1 a2 a3 : Option Value} {x : Nat} : ex d mL_law 456 [some (.ref x), a1, a2, a3] S h = ex d mL_law 457 [some (.ref x), a1, a2, a3] (.ref x :: S) h := exs rfl
set_option maxRecDepth 100000 in
theorem L_law_457 {d : Nat} {S : List Value} {h : kH} {a0 a1 a2 : Option Value} {x : Int32} : ex d mL_law 457 [a0, a1, a2, some (.int x)] S h = ex d mL_law 458 [a0, a1, a2, some (.int x)] (.int x :: S) h := exs rfl
set_option maxRecDepth 100000 in
theorem L_law_458 {d : Nat} {L : kL} {S : List Value} {h : kH} : ex d mL_law 458 L S h = ex d mL_law 459 L (.int 1 :: S) h := exs rfl
set_option maxRecDepth 100000 in
theorem L_law_459 {d : Nat} {L : kL} {S : List Value} {h : kH} {x y : Int32} : ex d mL_law 459 L (.int y :: .int x :: S) h = ex d mL_law 460 L (.int (x + y) :: S) h := exs rfl
set_option maxRecDepth 100000 in
theorem L_law_460 {d : Nat} {L : kL} {S : List Value} {h : kH} {q : Nat} {i : Int32} : ex d mL_law 460 L (.int i :: .ref q :: S) h = (kil h q i).bind fun v => ex d mL_law 461 L (.int v :: S) h := exb (F := fun v => .int v :: S) (G := fun _ => h) rfl
set_option maxRecDepth 100000 in
theorem L_law_461 {d : Nat} {L : kL} {h : kH} {v0 : Int32} {q : Nat} : ex d mL_law 461 L [.int v0, .ref q] h = if kis h 12 q = true then (rn d mX11_drop [.ref q, .int v0] h).bind fun r => ex d mL_law 464 L (r.1.toList ++ []) r.2 else none := exv rfl (Nat.le_of_ble_eq_true rfl)
set_option maxRecDepth 100000 in
theorem L_law_464 {d : Nat} {S : List Value} {h : kH} {a0 a1 a3 : Option Value} {x : Nat} : ex d mL_law 464 [a0, a1, some (.ref x), a3] S h = ex d mL_law 465 [a0, a1, some (.ref x), a3] (.ref x :: S) h := exs rfl
set_option maxRecDepth 100000 in
theorem L_law_465 {d : Nat} {S : List Value} {h : kH} {a1 a2 a3 : Option Value} {x : Nat} : ex d mL_law 465 [some (.ref x), a1, a2, a3] S h = ex d mL_law 466 [some (.ref x), a1, a2, a3] (.ref x :: S) h := exs rfl
set_option maxRecDepth 100000 in
theorem L_law_466 {d : Nat} {S : List Value} {h : kH} {a0 a1 a2 : Option Value} {x : Int32} : ex d mL_law 466 [a0, a1, a2, some (.int x)] S h = ex d mL_law 467 [a0, a1, a2, some (.int x)] (.int x :: S) h := exs rfl
set_option maxRecDepth 100000 in
theorem L_law_467 {d : Nat} {L : kL} {S : List Value} {h : kH} : ex d mL_law 467 L S h = ex d mL_law 468 L (.int 1 :: S) h := exs rfl
set_option maxRecDepth 100000 in
theorem L_law_468 {d : Nat} {L : kL} {S : List Value} {h : kH} {x y : Int32} : ex d mL_law 468 L (.int y :: .int x :: S) h = ex d mL_law 469 L (.int (x + y) :: S) h := exs rfl
set_option maxRecDepth 100000 in
theorem L_law_469 {d : Nat} {L : kL} {S : List Value} {h : kH} {q : Nat} {i : Int32} : ex d mL_law 469 L (.int i :: .ref q :: S) h = (kil h q i).bind fun v => ex d mL_law 470 L (.int v :: S) h := exb (F := fun v => .int v :: S) (G := fun _ => h) rfl
set_option maxRecDepth 100000 in
theorem L_law_470 {d : Nat} {L : kL} {h : kH} {v0 : Int32} {r0 : Int32} {q : Nat} : ex d mL_law 470 L [.int v0, .ref q, .int r0] h = if kis h 13 q = true then (rn d mX12_drop [.ref q, .int v0] h).bind fun r => ex d mL_law 473 L (r.1.toList ++ [.int r0]) r.2 else none := exv rfl (Nat.le_of_ble_eq_true rfl)
set_option maxRecDepth 100000 in
theorem L_law_473 {d : Nat} {L : kL} {S : List Value} {h : kH} {x y : Int32} : ex d mL_law 473 L (.int y :: .int x :: S) h = if x = y then ex d mL_law 1506 L S h else ex d mL_law 476 L S h := exc rfl
set_option maxRecDepth 100000 in
theorem L_law_476 {d : Nat} {L : kL} {S : List Value} {h : kH} : ex d mL_law 476 L S h = ex d mL_law 477 L (.int 0 :: S) h := exs rfl
set_option maxRecDepth 100000 in
theorem L_law_477_0 {d : Nat} {L : kL} {h : kH} : ex d mL_law 477 L [.int 0] h = some (some (.int 0), h) := exr rfl
set_option maxRecDepth 100000 in
theorem L_law_477_1 {d : Nat} {L : kL} {h : kH} : ex d mL_law 477 L [.int 1] h = some (some (.int 1), h) := exr rfl
set_option maxRecDepth 100000 in
theorem L_law_477 {d : Nat} {L : kL} {h : kH} {v : Int32} (hv : v = 0 ∨ v = 1) : ex d mL_law 477 L [.int v] h = some (some (.int v), h) := by rcases hv with rfl | rfl <;> exact exr rfl
set_option maxRecDepth 100000 in
theorem L_law_478 {d : Nat} {S : List Value} {h : kH} {a0 a2 a3 : Option Value} {x : Nat} : ex d mL_law 478 [a0, some (.ref x), a2, a3] S h = ex d mL_law 479 [a0, some (.ref x), a2, a3] (.ref x :: S) h := exs rfl
set_option maxRecDepth 100000 in
theorem L_law_479 {d : Nat} {S : List Value} {h : kH} {a1 a2 a3 : Option Value} {x : Nat} : ex d mL_law 479 [some (.ref x), a1, a2, a3] S h = ex d mL_law 480 [some (.ref x), a1, a2, a3] (.ref x :: S) h := exs rfl
set_option maxRecDepth 100000 in
theorem L_law_480 {d : Nat} {S : List Value} {h : kH} {a0 a1 a2 : Option Value} {x : Int32} : ex d mL_law 480 [a0, a1, a2, some (.int x)] S h = ex d mL_law 481 [a0, a1, a2, some (.int x)] (.int x :: S) h := exs rfl
set_option maxRecDepth 100000 in
theorem L_law_481 {d : Nat} {L : kL} {S : List Value} {h : kH} : ex d mL_law 481 L S h = ex d mL_law 482 L (.int 1 :: S) h := exs rfl
set_option maxRecDepth 100000 in
theorem L_law_482 {d : Nat} {L : kL} {S : List Value} {h : kH} {x y : Int32} : ex d mL_law 482 L (.int y :: .int x :: S) h = ex d mL_law 483 L (.int (x + y) :: S) h := exs rfl
set_option maxRecDepth 100000 in
theorem L_law_483 {d : Nat} {L : kL} {S : List Value} {h : kH} {q : Nat} {i : Int32} : ex d mL_law 483 L (.int i :: .ref q :: S) h = (kil h q i).bind fun v => ex d mL_law 484 L (.int v :: S) h := exb (F := fun v => .int v :: S) (G := fun _ => h) rfl
set_option maxRecDepth 100000 in
theorem L_law_484 {d : Nat} {L : kL} {h : kH} {v0 : Int32} {q : Nat} : ex d mL_law 484 L [.int v0, .ref q] h = if kis h 12 q = true then (rn d mX11_note [.ref q, .int v0] h).bind fun r => ex d mL_law 487 L (r.1.toList ++ []) r.2 else none := exv rfl (Nat.le_of_ble_eq_true rfl)
set_option maxRecDepth 100000 in
theorem L_law_487 {d : Nat} {S : List Value} {h : kH} {a0 a1 a3 : Option Value} {x : Nat} : ex d mL_law 487 [a0, a1, some (.ref x), a3] S h = ex d mL_law 488 [a0, a1, some (.ref x), a3] (.ref x :: S) h := exs rfl
set_option maxRecDepth 100000 in
theorem L_law_488 {d : Nat} {S : List Value} {h : kH} {a1 a2 a3 : Option Value} {x : Nat} : ex d mL_law 488 [some (.ref x), a1, a2, a3] S h = ex d mL_law 489 [some (.ref x), a1, a2, a3] (.ref x :: S) h := exs rfl
set_option maxRecDepth 100000 in
theorem L_law_489 {d : Nat} {S : List Value} {h : kH} {a0 a1 a2 : Option Value} {x : Int32} : ex d mL_law 489 [a0, a1, a2, some (.int x)] S h = ex d mL_law 490 [a0, a1, a2, some (.int x)] (.int x :: S) h := exs rfl
set_option maxRecDepth 100000 in
theorem L_law_490 {d : Nat} {L : kL} {S : List Value} {h : kH} : ex d mL_law 490 L S h = ex d mL_law 491 L (.int 1 :: S) h := exs rfl
set_option maxRecDepth 100000 in
theorem L_law_491 {d : Nat} {L : kL} {S : List Value} {h : kH} {x y : Int32} : ex d mL_law 491 L (.int y :: .int x :: S) h = ex d mL_law 492 L (.int (x + y) :: S) h := exs rfl
set_option maxRecDepth 100000 in
theorem L_law_492 {d : Nat} {L : kL} {S : List Value} {h : kH} {q : Nat} {i : Int32} : ex d mL_law 492 L (.int i :: .ref q :: S) h = (kil h q i).bind fun v => ex d mL_law 493 L (.int v :: S) h := exb (F := fun v => .int v :: S) (G := fun _ => h) rfl
set_option maxRecDepth 100000 in
theorem L_law_493 {d : Nat} {L : kL} {h : kH} {v0 : Int32} {r0 : Int32} {q : Nat} : ex d mL_law 493 L [.int v0, .ref q, .int r0] h = if kis h 13 q = true then (rn d mX12_note [.ref q, .int v0] h).bind fun r => ex d mL_law 496 L (r.1.toList ++ [.int r0]) r.2 else none := exv rfl (Nat.le_of_ble_eq_true rfl)
set_option maxRecDepth 100000 in
theorem L_law_496 {d : Nat} {L : kL} {S : List Value} {h : kH} {x y : Int32} : ex d mL_law 496 L (.int y :: .int x :: S) h = if x = y then ex d mL_law 1506 L S h else ex d mL_law 499 L S h := exc rfl
set_option maxRecDepth 100000 in
theorem L_law_499 {d : Nat} {L : kL} {S : List Value} {h : kH} : ex d mL_law 499 L S h = ex d mL_law 500 L (.int 0 :: S) h := exs rfl
set_option maxRecDepth 100000 in
theorem L_law_500_0 {d : Nat} {L : kL} {h : kH} : ex d mL_law 500 L [.int 0] h = some (some (.int 0), h) := exr rfl
set_option maxRecDepth 100000 in
theorem L_law_500_1 {d : Nat} {L : kL} {h : kH} : ex d mL_law 500 L [.int 1] h = some (some (.int 1), h) := exr rfl
set_option maxRecDepth 100000 in
theorem L_law_500 {d : Nat} {L : kL} {h : kH} {v : Int32} (hv : v = 0 ∨ v = 1) : ex d mL_law 500 L [.int v] h = some (some (.int v), h) := by rcases hv with rfl | rfl <;> exact exr rfl
set_option maxRecDepth 100000 in
theorem L_law_501 {d : Nat} {S : List Value} {h : kH} {a0 a2 a3 : Option Value} {x : Nat} : ex d mL_law 501 [a0, some (.ref x), a2, a3] S h = ex d mL_law 502 [a0, some (.ref x), a2, a3] (.ref x :: S) h := exs rfl
set_option maxRecDepth 100000 in
theorem L_law_502 {d : Nat} {S : List Value} {h : kH} {a1 a2 a3 : Option Value} {x : Nat} : ex d mL_law 502 [some (.ref x), a1, a2, a3] S h = ex d mL_law 503 [some (.ref x), a1, a2, a3] (.ref x :: S) h := exs rfl
set_option maxRecDepth 100000 in
theorem L_law_503 {d : Nat} {S : List Value} {h : kH} {a0 a1 a2 : Option Value} {x : Int32} : ex d mL_law 503 [a0, a1, a2, some (.int x)] S h = ex d mL_law 504 [a0, a1, a2, some (.int x)] (.int x :: S) h := exs rfl
set_option maxRecDepth 100000 in
theorem L_law_504 {d : Nat} {L : kL} {S : List Value} {h : kH} : ex d mL_law 504 L S h = ex d mL_law 505 L (.int 1 :: S) h := exs rfl
set_option maxRecDepth 100000 in
theorem L_law_505 {d : Nat} {L : kL} {S : List Value} {h : kH} {x y : Int32} : ex d mL_law 505 L (.int y :: .int x :: S) h = ex d mL_law 506 L (.int (x + y) :: S) h := exs rfl
set_option maxRecDepth 100000 in
theorem L_law_506 {d : Nat} {L : kL} {S : List Value} {h : kH} {q : Nat} {i : Int32} : ex d mL_law 506 L (.int i :: .ref q :: S) h = (kil h q i).bind fun v => ex d mL_law 507 L (.int v :: S) h := exb (F := fun v => .int v :: S) (G := fun _ => h) rfl
set_option maxRecDepth 100000 in
theorem L_law_507 {d : Nat} {S : List Value} {h : kH} {a1 a2 a3 : Option Value} {x : Nat} : ex d mL_law 507 [some (.ref x), a1, a2, a3] S h = ex d mL_law 508 [some (.ref x), a1, a2, a3] (.ref x :: S) h := exs rfl
set_option maxRecDepth 100000 in
theorem L_law_508 {d : Nat} {S : List Value} {h : kH} {a0 a1 a2 : Option Value} {x : Int32} : ex d mL_law 508 [a0, a1, a2, some (.int x)] S h = ex d mL_law 509 [a0, a1, a2, some (.int x)] (.int x :: S) h := exs rfl
set_option maxRecDepth 100000 in
theorem L_law_509 {d : Nat} {L : kL} {S : List Value} {h : kH} : ex d mL_law 509 L S h = ex d mL_law 510 L (.int 2 :: S) h := exs rfl
set_option maxRecDepth 100000 in
theorem L_law_510 {d : Nat} {L : kL} {S : List Value} {h : kH} {x y : Int32} : ex d mL_law 510 L (.int y :: .int x :: S) h = ex d mL_law 511 L (.int (x + y) :: S) h := exs rfl
set_option maxRecDepth 100000 in
theorem L_law_511 {d : Nat} {L : kL} {S : List Value} {h : kH} {q : Nat} {i : Int32} : ex d mL_law 511 L (.int i :: .ref q :: S) h = (kil h q i).bind fun v => ex d mL_law 512 L (.int v :: S) h := exb (F := fun v => .int v :: S) (G := fun _ => h) rfl
set_option maxRecDepth 100000 in
theorem L_law_512 {d : Nat} {L : kL} {h : kH} {v0 : Int32} {v1 : Int32} {q : Nat} : ex d mL_law 512 L [.int v1, .int v0, .ref q] h = if kis h 12 q = true then (rn d mX11_noteIs [.ref q, .int v0, .int v1] h).bind fun r => ex d mL_law 515 L (r.1.toList ++ []) r.2 else none := exv rfl (Nat.le_of_ble_eq_true rfl)
set_option maxRecDepth 100000 in
theorem L_law_515 {d : Nat} {S : List Value} {h : kH} {a0 a1 a3 : Option Value} {x : Nat} : ex d mL_law 515 [a0, a1, some (.ref x), a3] S h = ex d mL_law 516 [a0, a1, some (.ref x), a3] (.ref x :: S) h := exs rfl
set_option maxRecDepth 100000 in
theorem L_law_516 {d : Nat} {S : List Value} {h : kH} {a1 a2 a3 : Option Value} {x : Nat} : ex d mL_law 516 [some (.ref x), a1, a2, a3] S h = ex d mL_law 517 [some (.ref x), a1, a2, a3] (.ref x :: S) h := exs rfl
set_option maxRecDepth 100000 in
theorem L_law_517 {d : Nat} {S : List Value} {h : kH} {a0 a1 a2 : Option Value} {x : Int32} : ex d mL_law 517 [a0, a1, a2, some (.int x)] S h = ex d mL_law 518 [a0, a1, a2, some (.int x)] (.int x :: S) h := exs rfl
set_option maxRecDepth 100000 in
theorem L_law_518 {d : Nat} {L : kL} {S : List Value} {h : kH} : ex d mL_law 518 L S h = ex d mL_law 519 L (.int 1 :: S) h := exs rfl
set_option maxRecDepth 100000 in
theorem L_law_519 {d : Nat} {L : kL} {S : List Value} {h : kH} {x y : Int32} : ex d mL_law 519 L (.int y :: .int x :: S) h = ex d mL_law 520 L (.int (x + y) :: S) h := exs rfl
set_option maxRecDepth 100000 in
theorem L_law_520 {d : Nat} {L : kL} {S : List Value} {h : kH} {q : Nat} {i : Int32} : ex d mL_law 520 L (.int i :: .ref q :: S) h = (kil h q i).bind fun v => ex d mL_law 521 L (.int v :: S) h := exb (F := fun v => .int v :: S) (G := fun _ => h) rfl
set_option maxRecDepth 100000 in
theorem L_law_521 {d : Nat} {S : List Value} {h : kH} {a1 a2 a3 : Option Value} {x : Nat} : ex d mL_law 521 [some (.ref x), a1, a2, a3] S h = ex d mL_law 522 [some (.ref x), a1, a2, a3] (.ref x :: S) h := exs rfl
set_option maxRecDepth 100000 in
theorem L_law_522 {d : Nat} {S : List Value} {h : kH} {a0 a1 a2 : Option Value} {x : Int32} : ex d mL_law 522 [a0, a1, a2, some (.int x)] S h = ex d mL_law 523 [a0, a1, a2, some (.int x)] (.int x :: S) h := exs rfl
set_option maxRecDepth 100000 in
theorem L_law_523 {d : Nat} {L : kL} {S : List Value} {h : kH} : ex d mL_law 523 L S h = ex d mL_law 524 L (.int 2 :: S) h := exs rfl
set_option maxRecDepth 100000 in
theorem L_law_524 {d : Nat} {L : kL} {S : List Value} {h : kH} {x y : Int32} : ex d mL_law 524 L (.int y :: .int x :: S) h = ex d mL_law 525 L (.int (x + y) :: S) h := exs rfl
set_option maxRecDepth 100000 in
theorem L_law_525 {d : Nat} {L : kL} {S : List Value} {h : kH} {q : Nat} {i : Int32} : ex d mL_law 525 L (.int i :: .ref q :: S) h = (kil h q i).bind fun v => ex d mL_law 526 L (.int v :: S) h := exb (F := fun v => .int v :: S) (G := fun _ => h) rfl
set_option maxRecDepth 100000 in
theorem L_law_526 {d : Nat} {L : kL} {h : kH} {v0 : Int32} {v1 : Int32} {r0 : Int32} {q : Nat} : ex d mL_law 526 L [.int v1, .int v0, .ref q, .int r0] h = if kis h 13 q = true then (rn d mX12_noteIs [.ref q, .int v0, .int v1] h).bind fun r => ex d mL_law 529 L (r.1.toList ++ [.int r0]) r.2 else none := exv rfl (Nat.le_of_ble_eq_true rfl)
set_option maxRecDepth 100000 in
theorem L_law_529 {d : Nat} {L : kL} {S : List Value} {h : kH} {x y : Int32} : ex d mL_law 529 L (.int y :: .int x :: S) h = if x = y then ex d mL_law 1506 L S h else ex d mL_law 532 L S h := exc rfl
set_option maxRecDepth 100000 in
theorem L_law_532 {d : Nat} {L : kL} {S : List Value} {h : kH} : ex d mL_law 532 L S h = ex d mL_law 533 L (.int 0 :: S) h := exs rfl
set_option maxRecDepth 100000 in
theorem L_law_533_0 {d : Nat} {L : kL} {h : kH} : ex d mL_law 533 L [.int 0] h = some (some (.int 0), h) := exr rfl
set_option maxRecDepth 100000 in
theorem L_law_533_1 {d : Nat} {L : kL} {h : kH} : ex d mL_law 533 L [.int 1] h = some (some (.int 1), h) := exr rfl
set_option maxRecDepth 100000 in
theorem L_law_533 {d : Nat} {L : kL} {h : kH} {v : Int32} (hv : v = 0 ∨ v = 1) : ex d mL_law 533 L [.int v] h = some (some (.int v), h) := by rcases hv with rfl | rfl <;> exact exr rfl
set_option maxRecDepth 100000 in
theorem L_law_534 {d : Nat} {S : List Value} {h : kH} {a0 a2 a3 : Option Value} {x : Nat} : ex d mL_law 534 [a0, some (.ref x), a2, a3] S h = ex d mL_law 535 [a0, some (.ref x), a2, a3] (.ref x :: S) h := exs rfl
set_option maxRecDepth 100000 in
theorem L_law_535 {d : Nat} {S : List Value} {h : kH} {a1 a2 a3 : Option Value} {x : Nat} : ex d mL_law 535 [some (.ref x), a1, a2, a3] S h = ex d mL_law 536 [some (.ref x), a1, a2, a3] (.ref x :: S) h := exs rfl
set_option maxRecDepth 100000 in
theorem L_law_536 {d : Nat} {S : List Value} {h : kH} {a0 a1 a2 : Option Value} {x : Int32} : ex d mL_law 536 [a0, a1, a2, some (.int x)] S h = ex d mL_law 537 [a0, a1, a2, some (.int x)] (.int x :: S) h := exs rfl
set_option maxRecDepth 100000 in
theorem L_law_537 {d : Nat} {L : kL} {S : List Value} {h : kH} : ex d mL_law 537 L S h = ex d mL_law 538 L (.int 1 :: S) h := exs rfl
set_option maxRecDepth 100000 in
theorem L_law_538 {d : Nat} {L : kL} {S : List Value} {h : kH} {x y : Int32} : ex d mL_law 538 L (.int y :: .int x :: S) h = ex d mL_law 539 L (.int (x + y) :: S) h := exs rfl
set_option maxRecDepth 100000 in
theorem L_law_539 {d : Nat} {L : kL} {S : List Value} {h : kH} {q : Nat} {i : Int32} : ex d mL_law 539 L (.int i :: .ref q :: S) h = (kil h q i).bind fun v => ex d mL_law 540 L (.int v :: S) h := exb (F := fun v => .int v :: S) (G := fun _ => h) rfl
set_option maxRecDepth 100000 in
theorem L_law_540 {d : Nat} {S : List Value} {h : kH} {a1 a2 a3 : Option Value} {x : Nat} : ex d mL_law 540 [some (.ref x), a1, a2, a3] S h = ex d mL_law 541 [some (.ref x), a1, a2, a3] (.ref x :: S) h := exs rfl
set_option maxRecDepth 100000 in
theorem L_law_541 {d : Nat} {S : List Value} {h : kH} {a0 a1 a2 : Option Value} {x : Int32} : ex d mL_law 541 [a0, a1, a2, some (.int x)] S h = ex d mL_law 542 [a0, a1, a2, some (.int x)] (.int x :: S) h := exs rfl
set_option maxRecDepth 100000 in
theorem L_law_542 {d : Nat} {L : kL} {S : List Value} {h : kH} : ex d mL_law 542 L S h = ex d mL_law 543 L (.int 2 :: S) h := exs rfl
set_option maxRecDepth 100000 in
theorem L_law_543 {d : Nat} {L : kL} {S : List Value} {h : kH} {x y : Int32} : ex d mL_law 543 L (.int y :: .int x :: S) h = ex d mL_law 544 L (.int (x + y) :: S) h := exs rfl
set_option maxRecDepth 100000 in
theorem L_law_544 {d : Nat} {L : kL} {S : List Value} {h : kH} {q : Nat} {i : Int32} : ex d mL_law 544 L (.int i :: .ref q :: S) h = (kil h q i).bind fun v => ex d mL_law 545 L (.int v :: S) h := exb (F := fun v => .int v :: S) (G := fun _ => h) rfl
set_option maxRecDepth 100000 in
theorem L_law_545 {d : Nat} {L : kL} {h : kH} {v0 : Int32} {v1 : Int32} {q : Nat} : ex d mL_law 545 L [.int v1, .int v0, .ref q] h = if kis h 12 q = true then (rn d mX11_line [.ref q, .int v0, .int v1] h).bind fun r => ex d mL_law 548 L (r.1.toList ++ []) r.2 else none := exv rfl (Nat.le_of_ble_eq_true rfl)
set_option maxRecDepth 100000 in
theorem L_law_548 {d : Nat} {S : List Value} {h : kH} {a0 a1 a3 : Option Value} {x : Nat} : ex d mL_law 548 [a0, a1, some (.ref x), a3] S h = ex d mL_law 549 [a0, a1, some (.ref x), a3] (.ref x :: S) h := exs rfl
set_option maxRecDepth 100000 in
theorem L_law_549 {d : Nat} {S : List Value} {h : kH} {a1 a2 a3 : Option Value} {x : Nat} : ex d mL_law 549 [some (.ref x), a1, a2, a3] S h = ex d mL_law 550 [some (.ref x), a1, a2, a3] (.ref x :: S) h := exs rfl
set_option maxRecDepth 100000 in
theorem L_law_550 {d : Nat} {S : List Value} {h : kH} {a0 a1 a2 : Option Value} {x : Int32} : ex d mL_law 550 [a0, a1, a2, some (.int x)] S h = ex d mL_law 551 [a0, a1, a2, some (.int x)] (.int x :: S) h := exs rfl
set_option maxRecDepth 100000 in
theorem L_law_551 {d : Nat} {L : kL} {S : List Value} {h : kH} : ex d mL_law 551 L S h = ex d mL_law 552 L (.int 1 :: S) h := exs rfl
set_option maxRecDepth 100000 in
theorem L_law_552 {d : Nat} {L : kL} {S : List Value} {h : kH} {x y : Int32} : ex d mL_law 552 L (.int y :: .int x :: S) h = ex d mL_law 553 L (.int (x + y) :: S) h := exs rfl
set_option maxRecDepth 100000 in
theorem L_law_553 {d : Nat} {L : kL} {S : List Value} {h : kH} {q : Nat} {i : Int32} : ex d mL_law 553 L (.int i :: .ref q :: S) h = (kil h q i).bind fun v => ex d mL_law 554 L (.int v :: S) h := exb (F := fun v => .int v :: S) (G := fun _ => h) rfl
set_option maxRecDepth 100000 in
theorem L_law_554 {d : Nat} {S : List Value} {h : kH} {a1 a2 a3 : Option Value} {x : Nat} : ex d mL_law 554 [some (.ref x), a1, a2, a3] S h = ex d mL_law 555 [some (.ref x), a1, a2, a3] (.ref x :: S) h := exs rfl
set_option maxRecDepth 100000 in
theorem L_law_555 {d : Nat} {S : List Value} {h : kH} {a0 a1 a2 : Option Value} {x : Int32} : ex d mL_law 555 [a0, a1, a2, some (.int x)] S h = ex d mL_law 556 [a0, a1, a2, some (.int x)] (.int x :: S) h := exs rfl
set_option maxRecDepth 100000 in
theorem L_law_556 {d : Nat} {L : kL} {S : List Value} {h : kH} : ex d mL_law 556 L S h = ex d mL_law 557 L (.int 2 :: S) h := exs rfl
set_option maxRecDepth 100000 in
theorem L_law_557 {d : Nat} {L : kL} {S : List Value} {h : kH} {x y : Int32} : ex d mL_law 557 L (.int y :: .int x :: S) h = ex d mL_law 558 L (.int (x + y) :: S) h := exs rfl
set_option maxRecDepth 100000 in
theorem L_law_558 {d : Nat} {L : kL} {S : List Value} {h : kH} {q : Nat} {i : Int32} : ex d mL_law 558 L (.int i :: .ref q :: S) h = (kil h q i).bind fun v => ex d mL_law 559 L (.int v :: S) h := exb (F := fun v => .int v :: S) (G := fun _ => h) rfl
set_option maxRecDepth 100000 in
theorem L_law_559 {d : Nat} {L : kL} {h : kH} {v0 : Int32} {v1 : Int32} {r0 : Int64} {q : Nat} : ex d mL_law 559 L [.int v1, .int v0, .ref q, .long r0] h = if kis h 13 q = true then (rn d mX12_line [.ref q, .int v0, .int v1] h).bind fun r => ex d mL_law 562 L (r.1.toList ++ [.long r0]) r.2 else none := exv rfl (Nat.le_of_ble_eq_true rfl)
set_option maxRecDepth 100000 in
theorem L_law_562 {d : Nat} {L : kL} {S : List Value} {h : kH} {x y : Int64} : ex d mL_law 562 L (.long y :: .long x :: S) h = ex d mL_law 563 L (.int (lg_cmp x y) :: S) h := exs rfl
set_option maxRecDepth 100000 in
theorem L_law_563 {d : Nat} {L : kL} {S : List Value} {h : kH} {x : Int32} : ex d mL_law 563 L (.int x :: S) h = if x = 0 then ex d mL_law 1506 L S h else ex d mL_law 566 L S h := exc rfl
set_option maxRecDepth 100000 in
theorem L_law_566 {d : Nat} {L : kL} {S : List Value} {h : kH} : ex d mL_law 566 L S h = ex d mL_law 567 L (.int 0 :: S) h := exs rfl
set_option maxRecDepth 100000 in
theorem L_law_567_0 {d : Nat} {L : kL} {h : kH} : ex d mL_law 567 L [.int 0] h = some (some (.int 0), h) := exr rfl
set_option maxRecDepth 100000 in
theorem L_law_567_1 {d : Nat} {L : kL} {h : kH} : ex d mL_law 567 L [.int 1] h = some (some (.int 1), h) := exr rfl
set_option maxRecDepth 100000 in
theorem L_law_567 {d : Nat} {L : kL} {h : kH} {v : Int32} (hv : v = 0 ∨ v = 1) : ex d mL_law 567 L [.int v] h = some (some (.int v), h) := by rcases hv with rfl | rfl <;> exact exr rfl
set_option maxRecDepth 100000 in
theorem L_law_568 {d : Nat} {S : List Value} {h : kH} {a0 a2 a3 : Option Value} {x : Nat} : ex d mL_law 568 [a0, some (.ref x), a2, a3] S h = ex d mL_law 569 [a0, some (.ref x), a2, a3] (.ref x :: S) h := exs rfl
set_option maxRecDepth 100000 in
theorem L_law_569 {d : Nat} {S : List Value} {h : kH} {a1 a2 a3 : Option Value} {x : Nat} : ex d mL_law 569 [some (.ref x), a1, a2, a3] S h = ex d mL_law 570 [some (.ref x), a1, a2, a3] (.ref x :: S) h := exs rfl
set_option maxRecDepth 100000 in
theorem L_law_570 {d : Nat} {S : List Value} {h : kH} {a0 a1 a2 : Option Value} {x : Int32} : ex d mL_law 570 [a0, a1, a2, some (.int x)] S h = ex d mL_law 571 [a0, a1, a2, some (.int x)] (.int x :: S) h := exs rfl
set_option maxRecDepth 100000 in
theorem L_law_571 {d : Nat} {L : kL} {S : List Value} {h : kH} : ex d mL_law 571 L S h = ex d mL_law 572 L (.int 1 :: S) h := exs rfl
set_option maxRecDepth 100000 in
theorem L_law_572 {d : Nat} {L : kL} {S : List Value} {h : kH} {x y : Int32} : ex d mL_law 572 L (.int y :: .int x :: S) h = ex d mL_law 573 L (.int (x + y) :: S) h := exs rfl
set_option maxRecDepth 100000 in
theorem L_law_573 {d : Nat} {L : kL} {S : List Value} {h : kH} {q : Nat} {i : Int32} : ex d mL_law 573 L (.int i :: .ref q :: S) h = (kil h q i).bind fun v => ex d mL_law 574 L (.int v :: S) h := exb (F := fun v => .int v :: S) (G := fun _ => h) rfl
set_option maxRecDepth 100000 in
theorem L_law_574 {d : Nat} {S : List Value} {h : kH} {a1 a2 a3 : Option Value} {x : Nat} : ex d mL_law 574 [some (.ref x), a1, a2, a3] S h = ex d mL_law 575 [some (.ref x), a1, a2, a3] (.ref x :: S) h := exs rfl
set_option maxRecDepth 100000 in
theorem L_law_575 {d : Nat} {S : List Value} {h : kH} {a0 a1 a2 : Option Value} {x : Int32} : ex d mL_law 575 [a0, a1, a2, some (.int x)] S h = ex d mL_law 576 [a0, a1, a2, some (.int x)] (.int x :: S) h := exs rfl
set_option maxRecDepth 100000 in
theorem L_law_576 {d : Nat} {L : kL} {S : List Value} {h : kH} : ex d mL_law 576 L S h = ex d mL_law 577 L (.int 2 :: S) h := exs rfl
set_option maxRecDepth 100000 in
theorem L_law_577 {d : Nat} {L : kL} {S : List Value} {h : kH} {x y : Int32} : ex d mL_law 577 L (.int y :: .int x :: S) h = ex d mL_law 578 L (.int (x + y) :: S) h := exs rfl
set_option maxRecDepth 100000 in
theorem L_law_578 {d : Nat} {L : kL} {S : List Value} {h : kH} {q : Nat} {i : Int32} : ex d mL_law 578 L (.int i :: .ref q :: S) h = (kil h q i).bind fun v => ex d mL_law 579 L (.int v :: S) h := exb (F := fun v => .int v :: S) (G := fun _ => h) rfl
set_option maxRecDepth 100000 in
theorem L_law_579 {d : Nat} {L : kL} {h : kH} {v0 : Int32} {v1 : Int32} {q : Nat} : ex d mL_law 579 L [.int v1, .int v0, .ref q] h = if kis h 12 q = true then (rn d mX11_due [.ref q, .int v0, .int v1] h).bind fun r => ex d mL_law 582 L (r.1.toList ++ []) r.2 else none := exv rfl (Nat.le_of_ble_eq_true rfl)
set_option maxRecDepth 100000 in
theorem L_law_582 {d : Nat} {S : List Value} {h : kH} {a0 a1 a3 : Option Value} {x : Nat} : ex d mL_law 582 [a0, a1, some (.ref x), a3] S h = ex d mL_law 583 [a0, a1, some (.ref x), a3] (.ref x :: S) h := exs rfl
set_option maxRecDepth 100000 in
theorem L_law_583 {d : Nat} {S : List Value} {h : kH} {a1 a2 a3 : Option Value} {x : Nat} : ex d mL_law 583 [some (.ref x), a1, a2, a3] S h = ex d mL_law 584 [some (.ref x), a1, a2, a3] (.ref x :: S) h := exs rfl
set_option maxRecDepth 100000 in
theorem L_law_584 {d : Nat} {S : List Value} {h : kH} {a0 a1 a2 : Option Value} {x : Int32} : ex d mL_law 584 [a0, a1, a2, some (.int x)] S h = ex d mL_law 585 [a0, a1, a2, some (.int x)] (.int x :: S) h := exs rfl
set_option maxRecDepth 100000 in
theorem L_law_585 {d : Nat} {L : kL} {S : List Value} {h : kH} : ex d mL_law 585 L S h = ex d mL_law 586 L (.int 1 :: S) h := exs rfl
set_option maxRecDepth 100000 in
theorem L_law_586 {d : Nat} {L : kL} {S : List Value} {h : kH} {x y : Int32} : ex d mL_law 586 L (.int y :: .int x :: S) h = ex d mL_law 587 L (.int (x + y) :: S) h := exs rfl
set_option maxRecDepth 100000 in
theorem L_law_587 {d : Nat} {L : kL} {S : List Value} {h : kH} {q : Nat} {i : Int32} : ex d mL_law 587 L (.int i :: .ref q :: S) h = (kil h q i).bind fun v => ex d mL_law 588 L (.int v :: S) h := exb (F := fun v => .int v :: S) (G := fun _ => h) rfl
set_option maxRecDepth 100000 in
theorem L_law_588 {d : Nat} {S : List Value} {h : kH} {a1 a2 a3 : Option Value} {x : Nat} : ex d mL_law 588 [some (.ref x), a1, a2, a3] S h = ex d mL_law 589 [some (.ref x), a1, a2, a3] (.ref x :: S) h := exs rfl
set_option maxRecDepth 100000 in
theorem L_law_589 {d : Nat} {S : List Value} {h : kH} {a0 a1 a2 : Option Value} {x : Int32} : ex d mL_law 589 [a0, a1, a2, some (.int x)] S h = ex d mL_law 590 [a0, a1, a2, some (.int x)] (.int x :: S) h := exs rfl
set_option maxRecDepth 100000 in
theorem L_law_590 {d : Nat} {L : kL} {S : List Value} {h : kH} : ex d mL_law 590 L S h = ex d mL_law 591 L (.int 2 :: S) h := exs rfl
set_option maxRecDepth 100000 in
theorem L_law_591 {d : Nat} {L : kL} {S : List Value} {h : kH} {x y : Int32} : ex d mL_law 591 L (.int y :: .int x :: S) h = ex d mL_law 592 L (.int (x + y) :: S) h := exs rfl
set_option maxRecDepth 100000 in
theorem L_law_592 {d : Nat} {L : kL} {S : List Value} {h : kH} {q : Nat} {i : Int32} : ex d mL_law 592 L (.int i :: .ref q :: S) h = (kil h q i).bind fun v => ex d mL_law 593 L (.int v :: S) h := exb (F := fun v => .int v :: S) (G := fun _ => h) rfl
set_option maxRecDepth 100000 in
theorem L_law_593 {d : Nat} {L : kL} {h : kH} {v0 : Int32} {v1 : Int32} {r0 : Int32} {q : Nat} : ex d mL_law 593 L [.int v1, .int v0, .ref q, .int r0] h = if kis h 13 q = true then (rn d mX12_due [.ref q, .int v0, .int v1] h).bind fun r => ex d mL_law 596 L (r.1.toList ++ [.int r0]) r.2 else none := exv rfl (Nat.le_of_ble_eq_true rfl)
set_option maxRecDepth 100000 in
theorem L_law_596 {d : Nat} {L : kL} {S : List Value} {h : kH} {x y : Int32} : ex d mL_law 596 L (.int y :: .int x :: S) h = if x = y then ex d mL_law 1506 L S h else ex d mL_law 599 L S h := exc rfl
set_option maxRecDepth 100000 in
theorem L_law_599 {d : Nat} {L : kL} {S : List Value} {h : kH} : ex d mL_law 599 L S h = ex d mL_law 600 L (.int 0 :: S) h := exs rfl
set_option maxRecDepth 100000 in
theorem L_law_600_0 {d : Nat} {L : kL} {h : kH} : ex d mL_law 600 L [.int 0] h = some (some (.int 0), h) := exr rfl
set_option maxRecDepth 100000 in
theorem L_law_600_1 {d : Nat} {L : kL} {h : kH} : ex d mL_law 600 L [.int 1] h = some (some (.int 1), h) := exr rfl
set_option maxRecDepth 100000 in
theorem L_law_600 {d : Nat} {L : kL} {h : kH} {v : Int32} (hv : v = 0 ∨ v = 1) : ex d mL_law 600 L [.int v] h = some (some (.int v), h) := by rcases hv with rfl | rfl <;> exact exr rfl
set_option maxRecDepth 100000 in
theorem L_law_601 {d : Nat} {S : List Value} {h : kH} {a0 a2 a3 : Option Value} {x : Nat} : ex d mL_law 601 [a0, some (.ref x), a2, a3] S h = ex d mL_law 602 [a0, some (.ref x), a2, a3] (.ref x :: S) h := exs rfl
set_option maxRecDepth 100000 in
theorem L_law_602 {d : Nat} {L : kL} {h : kH} {q : Nat} : ex d mL_law 602 L [.ref q] h = if kis h 12 q = true then (rn d mX11_undo [.ref q] h).bind fun r => ex d mL_law 605 L (r.1.toList ++ []) r.2 else none := exv rfl (Nat.le_of_ble_eq_true rfl)
set_option maxRecDepth 100000 in
theorem L_law_605 {d : Nat} {S : List Value} {h : kH} {a0 a1 a3 : Option Value} {x : Nat} : ex d mL_law 605 [a0, a1, some (.ref x), a3] S h = ex d mL_law 606 [a0, a1, some (.ref x), a3] (.ref x :: S) h := exs rfl
set_option maxRecDepth 100000 in
theorem L_law_606 {d : Nat} {L : kL} {h : kH} {r0 : Int32} {q : Nat} : ex d mL_law 606 L [.ref q, .int r0] h = if kis h 13 q = true then (rn d mX12_undo [.ref q] h).bind fun r => ex d mL_law 609 L (r.1.toList ++ [.int r0]) r.2 else none := exv rfl (Nat.le_of_ble_eq_true rfl)
set_option maxRecDepth 100000 in
theorem L_law_609 {d : Nat} {L : kL} {S : List Value} {h : kH} {x y : Int32} : ex d mL_law 609 L (.int y :: .int x :: S) h = if x = y then ex d mL_law 1506 L S h else ex d mL_law 612 L S h := exc rfl
set_option maxRecDepth 100000 in
theorem L_law_612 {d : Nat} {L : kL} {S : List Value} {h : kH} : ex d mL_law 612 L S h = ex d mL_law 613 L (.int 0 :: S) h := exs rfl
set_option maxRecDepth 100000 in
theorem L_law_613_0 {d : Nat} {L : kL} {h : kH} : ex d mL_law 613 L [.int 0] h = some (some (.int 0), h) := exr rfl
set_option maxRecDepth 100000 in
theorem L_law_613_1 {d : Nat} {L : kL} {h : kH} : ex d mL_law 613 L [.int 1] h = some (some (.int 1), h) := exr rfl
set_option maxRecDepth 100000 in
theorem L_law_613 {d : Nat} {L : kL} {h : kH} {v : Int32} (hv : v = 0 ∨ v = 1) : ex d mL_law 613 L [.int v] h = some (some (.int v), h) := by rcases hv with rfl | rfl <;> exact exr rfl
set_option maxRecDepth 100000 in
theorem L_law_614 {d : Nat} {S : List Value} {h : kH} {a0 a2 a3 : Option Value} {x : Nat} : ex d mL_law 614 [a0, some (.ref x), a2, a3] S h = ex d mL_law 615 [a0, some (.ref x), a2, a3] (.ref x :: S) h := exs rfl
set_option maxRecDepth 100000 in
theorem L_law_615 {d : Nat} {S : List Value} {h : kH} {a1 a2 a3 : Option Value} {x : Nat} : ex d mL_law 615 [some (.ref x), a1, a2, a3] S h = ex d mL_law 616 [some (.ref x), a1, a2, a3] (.ref x :: S) h := exs rfl
set_option maxRecDepth 100000 in
theorem L_law_616 {d : Nat} {S : List Value} {h : kH} {a0 a1 a2 : Option Value} {x : Int32} : ex d mL_law 616 [a0, a1, a2, some (.int x)] S h = ex d mL_law 617 [a0, a1, a2, some (.int x)] (.int x :: S) h := exs rfl
set_option maxRecDepth 100000 in
theorem L_law_617 {d : Nat} {L : kL} {S : List Value} {h : kH} : ex d mL_law 617 L S h = ex d mL_law 618 L (.int 1 :: S) h := exs rfl
set_option maxRecDepth 100000 in
theorem L_law_618 {d : Nat} {L : kL} {S : List Value} {h : kH} {x y : Int32} : ex d mL_law 618 L (.int y :: .int x :: S) h = ex d mL_law 619 L (.int (x + y) :: S) h := exs rfl
set_option maxRecDepth 100000 in
theorem L_law_619 {d : Nat} {L : kL} {S : List Value} {h : kH} {q : Nat} {i : Int32} : ex d mL_law 619 L (.int i :: .ref q :: S) h = (kil h q i).bind fun v => ex d mL_law 620 L (.int v :: S) h := exb (F := fun v => .int v :: S) (G := fun _ => h) rfl
set_option maxRecDepth 100000 in
theorem L_law_620 {d : Nat} {L : kL} {h : kH} {v0 : Int32} {q : Nat} : ex d mL_law 620 L [.int v0, .ref q] h = if kis h 12 q = true then (rn d mX11_get [.ref q, .int v0] h).bind fun r => ex d mL_law 623 L (r.1.toList ++ []) r.2 else none := exv rfl (Nat.le_of_ble_eq_true rfl)
set_option maxRecDepth 100000 in
theorem L_law_623 {d : Nat} {S : List Value} {h : kH} {a0 a1 a3 : Option Value} {x : Nat} : ex d mL_law 623 [a0, a1, some (.ref x), a3] S h = ex d mL_law 624 [a0, a1, some (.ref x), a3] (.ref x :: S) h := exs rfl
set_option maxRecDepth 100000 in
theorem L_law_624 {d : Nat} {S : List Value} {h : kH} {a1 a2 a3 : Option Value} {x : Nat} : ex d mL_law 624 [some (.ref x), a1, a2, a3] S h = ex d mL_law 625 [some (.ref x), a1, a2, a3] (.ref x :: S) h := exs rfl
set_option maxRecDepth 100000 in
theorem L_law_625 {d : Nat} {S : List Value} {h : kH} {a0 a1 a2 : Option Value} {x : Int32} : ex d mL_law 625 [a0, a1, a2, some (.int x)] S h = ex d mL_law 626 [a0, a1, a2, some (.int x)] (.int x :: S) h := exs rfl
set_option maxRecDepth 100000 in
theorem L_law_626 {d : Nat} {L : kL} {S : List Value} {h : kH} : ex d mL_law 626 L S h = ex d mL_law 627 L (.int 1 :: S) h := exs rfl
set_option maxRecDepth 100000 in
theorem L_law_627 {d : Nat} {L : kL} {S : List Value} {h : kH} {x y : Int32} : ex d mL_law 627 L (.int y :: .int x :: S) h = ex d mL_law 628 L (.int (x + y) :: S) h := exs rfl
set_option maxRecDepth 100000 in
theorem L_law_628 {d : Nat} {L : kL} {S : List Value} {h : kH} {q : Nat} {i : Int32} : ex d mL_law 628 L (.int i :: .ref q :: S) h = (kil h q i).bind fun v => ex d mL_law 629 L (.int v :: S) h := exb (F := fun v => .int v :: S) (G := fun _ => h) rfl
set_option maxRecDepth 100000 in
theorem L_law_629 {d : Nat} {L : kL} {h : kH} {v0 : Int32} {r0 : Int32} {q : Nat} : ex d mL_law 629 L [.int v0, .ref q, .int r0] h = if kis h 13 q = true then (rn d mX12_get [.ref q, .int v0] h).bind fun r => ex d mL_law 632 L (r.1.toList ++ [.int r0]) r.2 else none := exv rfl (Nat.le_of_ble_eq_true rfl)
set_option maxRecDepth 100000 in
theorem L_law_632 {d : Nat} {L : kL} {S : List Value} {h : kH} {x y : Int32} : ex d mL_law 632 L (.int y :: .int x :: S) h = if x = y then ex d mL_law 1506 L S h else ex d mL_law 635 L S h := exc rfl
set_option maxRecDepth 100000 in
theorem L_law_635 {d : Nat} {L : kL} {S : List Value} {h : kH} : ex d mL_law 635 L S h = ex d mL_law 636 L (.int 0 :: S) h := exs rfl
set_option maxRecDepth 100000 in
theorem L_law_636_0 {d : Nat} {L : kL} {h : kH} : ex d mL_law 636 L [.int 0] h = some (some (.int 0), h) := exr rfl
set_option maxRecDepth 100000 in
theorem L_law_636_1 {d : Nat} {L : kL} {h : kH} : ex d mL_law 636 L [.int 1] h = some (some (.int 1), h) := exr rfl
set_option maxRecDepth 100000 in
theorem L_law_636 {d : Nat} {L : kL} {h : kH} {v : Int32} (hv : v = 0 ∨ v = 1) : ex d mL_law 636 L [.int v] h = some (some (.int v), h) := by rcases hv with rfl | rfl <;> exact exr rfl
set_option maxRecDepth 100000 in
theorem L_law_637 {d : Nat} {S : List Value} {h : kH} {a0 a2 a3 : Option Value} {x : Nat} : ex d mL_law 637 [a0, some (.ref x), a2, a3] S h = ex d mL_law 638 [a0, some (.ref x), a2, a3] (.ref x :: S) h := exs rfl
set_option maxRecDepth 100000 in
theorem L_law_638 {d : Nat} {S : List Value} {h : kH} {a1 a2 a3 : Option Value} {x : Nat} : ex d mL_law 638 [some (.ref x), a1, a2, a3] S h = ex d mL_law 639 [some (.ref x), a1, a2, a3] (.ref x :: S) h := exs rfl
set_option maxRecDepth 100000 in
theorem L_law_639 {d : Nat} {S : List Value} {h : kH} {a0 a1 a2 : Option Value} {x : Int32} : ex d mL_law 639 [a0, a1, a2, some (.int x)] S h = ex d mL_law 640 [a0, a1, a2, some (.int x)] (.int x :: S) h := exs rfl
set_option maxRecDepth 100000 in
theorem L_law_640 {d : Nat} {L : kL} {S : List Value} {h : kH} : ex d mL_law 640 L S h = ex d mL_law 641 L (.int 1 :: S) h := exs rfl
set_option maxRecDepth 100000 in
theorem L_law_641 {d : Nat} {L : kL} {S : List Value} {h : kH} {x y : Int32} : ex d mL_law 641 L (.int y :: .int x :: S) h = ex d mL_law 642 L (.int (x + y) :: S) h := exs rfl
set_option maxRecDepth 100000 in
theorem L_law_642 {d : Nat} {L : kL} {S : List Value} {h : kH} {q : Nat} {i : Int32} : ex d mL_law 642 L (.int i :: .ref q :: S) h = (kil h q i).bind fun v => ex d mL_law 643 L (.int v :: S) h := exb (F := fun v => .int v :: S) (G := fun _ => h) rfl
set_option maxRecDepth 100000 in
theorem L_law_643 {d : Nat} {S : List Value} {h : kH} {a1 a2 a3 : Option Value} {x : Nat} : ex d mL_law 643 [some (.ref x), a1, a2, a3] S h = ex d mL_law 644 [some (.ref x), a1, a2, a3] (.ref x :: S) h := exs rfl
set_option maxRecDepth 100000 in
theorem L_law_644 {d : Nat} {S : List Value} {h : kH} {a0 a1 a2 : Option Value} {x : Int32} : ex d mL_law 644 [a0, a1, a2, some (.int x)] S h = ex d mL_law 645 [a0, a1, a2, some (.int x)] (.int x :: S) h := exs rfl
set_option maxRecDepth 100000 in
theorem L_law_645 {d : Nat} {L : kL} {S : List Value} {h : kH} : ex d mL_law 645 L S h = ex d mL_law 646 L (.int 2 :: S) h := exs rfl
set_option maxRecDepth 100000 in
theorem L_law_646 {d : Nat} {L : kL} {S : List Value} {h : kH} {x y : Int32} : ex d mL_law 646 L (.int y :: .int x :: S) h = ex d mL_law 647 L (.int (x + y) :: S) h := exs rfl
set_option maxRecDepth 100000 in
theorem L_law_647 {d : Nat} {L : kL} {S : List Value} {h : kH} {q : Nat} {i : Int32} : ex d mL_law 647 L (.int i :: .ref q :: S) h = (kil h q i).bind fun v => ex d mL_law 648 L (.int v :: S) h := exb (F := fun v => .int v :: S) (G := fun _ => h) rfl
set_option maxRecDepth 100000 in
theorem L_law_648 {d : Nat} {L : kL} {h : kH} {v0 : Int32} {v1 : Int32} {q : Nat} : ex d mL_law 648 L [.int v1, .int v0, .ref q] h = if kis h 12 q = true then (rn d mX11_knock [.ref q, .int v0, .int v1] h).bind fun r => ex d mL_law 651 L (r.1.toList ++ []) r.2 else none := exv rfl (Nat.le_of_ble_eq_true rfl)
set_option maxRecDepth 100000 in
theorem L_law_651 {d : Nat} {S : List Value} {h : kH} {a0 a1 a3 : Option Value} {x : Nat} : ex d mL_law 651 [a0, a1, some (.ref x), a3] S h = ex d mL_law 652 [a0, a1, some (.ref x), a3] (.ref x :: S) h := exs rfl
set_option maxRecDepth 100000 in
theorem L_law_652 {d : Nat} {S : List Value} {h : kH} {a1 a2 a3 : Option Value} {x : Nat} : ex d mL_law 652 [some (.ref x), a1, a2, a3] S h = ex d mL_law 653 [some (.ref x), a1, a2, a3] (.ref x :: S) h := exs rfl
set_option maxRecDepth 100000 in
theorem L_law_653 {d : Nat} {S : List Value} {h : kH} {a0 a1 a2 : Option Value} {x : Int32} : ex d mL_law 653 [a0, a1, a2, some (.int x)] S h = ex d mL_law 654 [a0, a1, a2, some (.int x)] (.int x :: S) h := exs rfl
set_option maxRecDepth 100000 in
theorem L_law_654 {d : Nat} {L : kL} {S : List Value} {h : kH} : ex d mL_law 654 L S h = ex d mL_law 655 L (.int 1 :: S) h := exs rfl
set_option maxRecDepth 100000 in
theorem L_law_655 {d : Nat} {L : kL} {S : List Value} {h : kH} {x y : Int32} : ex d mL_law 655 L (.int y :: .int x :: S) h = ex d mL_law 656 L (.int (x + y) :: S) h := exs rfl
set_option maxRecDepth 100000 in
theorem L_law_656 {d : Nat} {L : kL} {S : List Value} {h : kH} {q : Nat} {i : Int32} : ex d mL_law 656 L (.int i :: .ref q :: S) h = (kil h q i).bind fun v => ex d mL_law 657 L (.int v :: S) h := exb (F := fun v => .int v :: S) (G := fun _ => h) rfl
set_option maxRecDepth 100000 in
theorem L_law_657 {d : Nat} {S : List Value} {h : kH} {a1 a2 a3 : Option Value} {x : Nat} : ex d mL_law 657 [some (.ref x), a1, a2, a3] S h = ex d mL_law 658 [some (.ref x), a1, a2, a3] (.ref x :: S) h := exs rfl
set_option maxRecDepth 100000 in
theorem L_law_658 {d : Nat} {S : List Value} {h : kH} {a0 a1 a2 : Option Value} {x : Int32} : ex d mL_law 658 [a0, a1, a2, some (.int x)] S h = ex d mL_law 659 [a0, a1, a2, some (.int x)] (.int x :: S) h := exs rfl
set_option maxRecDepth 100000 in
theorem L_law_659 {d : Nat} {L : kL} {S : List Value} {h : kH} : ex d mL_law 659 L S h = ex d mL_law 660 L (.int 2 :: S) h := exs rfl
set_option maxRecDepth 100000 in
theorem L_law_660 {d : Nat} {L : kL} {S : List Value} {h : kH} {x y : Int32} : ex d mL_law 660 L (.int y :: .int x :: S) h = ex d mL_law 661 L (.int (x + y) :: S) h := exs rfl
set_option maxRecDepth 100000 in
theorem L_law_661 {d : Nat} {L : kL} {S : List Value} {h : kH} {q : Nat} {i : Int32} : ex d mL_law 661 L (.int i :: .ref q :: S) h = (kil h q i).bind fun v => ex d mL_law 662 L (.int v :: S) h := exb (F := fun v => .int v :: S) (G := fun _ => h) rfl
set_option maxRecDepth 100000 in
theorem L_law_662 {d : Nat} {L : kL} {h : kH} {v0 : Int32} {v1 : Int32} {r0 : Int32} {q : Nat} : ex d mL_law 662 L [.int v1, .int v0, .ref q, .int r0] h = if kis h 13 q = true then (rn d mX12_knock [.ref q, .int v0, .int v1] h).bind fun r => ex d mL_law 665 L (r.1.toList ++ [.int r0]) r.2 else none := exv rfl (Nat.le_of_ble_eq_true rfl)
set_option maxRecDepth 100000 in
theorem L_law_665 {d : Nat} {L : kL} {S : List Value} {h : kH} {x y : Int32} : ex d mL_law 665 L (.int y :: .int x :: S) h = if x = y then ex d mL_law 1506 L S h else ex d mL_law 668 L S h := exc rfl
set_option maxRecDepth 100000 in
theorem L_law_668 {d : Nat} {L : kL} {S : List Value} {h : kH} : ex d mL_law 668 L S h = ex d mL_law 669 L (.int 0 :: S) h := exs rfl
set_option maxRecDepth 100000 in
theorem L_law_669_0 {d : Nat} {L : kL} {h : kH} : ex d mL_law 669 L [.int 0] h = some (some (.int 0), h) := exr rfl
set_option maxRecDepth 100000 in
theorem L_law_669_1 {d : Nat} {L : kL} {h : kH} : ex d mL_law 669 L [.int 1] h = some (some (.int 1), h) := exr rfl
set_option maxRecDepth 100000 in
theorem L_law_669 {d : Nat} {L : kL} {h : kH} {v : Int32} (hv : v = 0 ∨ v = 1) : ex d mL_law 669 L [.int v] h = some (some (.int v), h) := by rcases hv with rfl | rfl <;> exact exr rfl
set_option maxRecDepth 100000 in
theorem L_law_670 {d : Nat} {S : List Value} {h : kH} {a0 a2 a3 : Option Value} {x : Nat} : ex d mL_law 670 [a0, some (.ref x), a2, a3] S h = ex d mL_law 671 [a0, some (.ref x), a2, a3] (.ref x :: S) h := exs rfl
set_option maxRecDepth 100000 in
theorem L_law_671 {d : Nat} {S : List Value} {h : kH} {a1 a2 a3 : Option Value} {x : Nat} : ex d mL_law 671 [some (.ref x), a1, a2, a3] S h = ex d mL_law 672 [some (.ref x), a1, a2, a3] (.ref x :: S) h := exs rfl
set_option maxRecDepth 100000 in
theorem L_law_672 {d : Nat} {S : List Value} {h : kH} {a0 a1 a2 : Option Value} {x : Int32} : ex d mL_law 672 [a0, a1, a2, some (.int x)] S h = ex d mL_law 673 [a0, a1, a2, some (.int x)] (.int x :: S) h := exs rfl
set_option maxRecDepth 100000 in
theorem L_law_673 {d : Nat} {L : kL} {S : List Value} {h : kH} : ex d mL_law 673 L S h = ex d mL_law 674 L (.int 1 :: S) h := exs rfl
set_option maxRecDepth 100000 in
theorem L_law_674 {d : Nat} {L : kL} {S : List Value} {h : kH} {x y : Int32} : ex d mL_law 674 L (.int y :: .int x :: S) h = ex d mL_law 675 L (.int (x + y) :: S) h := exs rfl
set_option maxRecDepth 100000 in
theorem L_law_675 {d : Nat} {L : kL} {S : List Value} {h : kH} {q : Nat} {i : Int32} : ex d mL_law 675 L (.int i :: .ref q :: S) h = (kil h q i).bind fun v => ex d mL_law 676 L (.int v :: S) h := exb (F := fun v => .int v :: S) (G := fun _ => h) rfl
set_option maxRecDepth 100000 in
theorem L_law_676 {d : Nat} {S : List Value} {h : kH} {a1 a2 a3 : Option Value} {x : Nat} : ex d mL_law 676 [some (.ref x), a1, a2, a3] S h = ex d mL_law 677 [some (.ref x), a1, a2, a3] (.ref x :: S) h := exs rfl
set_option maxRecDepth 100000 in
theorem L_law_677 {d : Nat} {S : List Value} {h : kH} {a0 a1 a2 : Option Value} {x : Int32} : ex d mL_law 677 [a0, a1, a2, some (.int x)] S h = ex d mL_law 678 [a0, a1, a2, some (.int x)] (.int x :: S) h := exs rfl
set_option maxRecDepth 100000 in
theorem L_law_678 {d : Nat} {L : kL} {S : List Value} {h : kH} : ex d mL_law 678 L S h = ex d mL_law 679 L (.int 2 :: S) h := exs rfl
set_option maxRecDepth 100000 in
theorem L_law_679 {d : Nat} {L : kL} {S : List Value} {h : kH} {x y : Int32} : ex d mL_law 679 L (.int y :: .int x :: S) h = ex d mL_law 680 L (.int (x + y) :: S) h := exs rfl
set_option maxRecDepth 100000 in
theorem L_law_680 {d : Nat} {L : kL} {S : List Value} {h : kH} {q : Nat} {i : Int32} : ex d mL_law 680 L (.int i :: .ref q :: S) h = (kil h q i).bind fun v => ex d mL_law 681 L (.int v :: S) h := exb (F := fun v => .int v :: S) (G := fun _ => h) rfl
set_option maxRecDepth 100000 in
theorem L_law_681 {d : Nat} {L : kL} {h : kH} {v0 : Int32} {v1 : Int32} {q : Nat} : ex d mL_law 681 L [.int v1, .int v0, .ref q] h = if kis h 12 q = true then (rn d mX11_ratio [.ref q, .int v0, .int v1] h).bind fun r => ex d mL_law 684 L (r.1.toList ++ []) r.2 else none := exv rfl (Nat.le_of_ble_eq_true rfl)
set_option maxRecDepth 100000 in
theorem L_law_684 {d : Nat} {S : List Value} {h : kH} {a0 a1 a3 : Option Value} {x : Nat} : ex d mL_law 684 [a0, a1, some (.ref x), a3] S h = ex d mL_law 685 [a0, a1, some (.ref x), a3] (.ref x :: S) h := exs rfl
set_option maxRecDepth 100000 in
theorem L_law_685 {d : Nat} {S : List Value} {h : kH} {a1 a2 a3 : Option Value} {x : Nat} : ex d mL_law 685 [some (.ref x), a1, a2, a3] S h = ex d mL_law 686 [some (.ref x), a1, a2, a3] (.ref x :: S) h := exs rfl
set_option maxRecDepth 100000 in
theorem L_law_686 {d : Nat} {S : List Value} {h : kH} {a0 a1 a2 : Option Value} {x : Int32} : ex d mL_law 686 [a0, a1, a2, some (.int x)] S h = ex d mL_law 687 [a0, a1, a2, some (.int x)] (.int x :: S) h := exs rfl
set_option maxRecDepth 100000 in
theorem L_law_687 {d : Nat} {L : kL} {S : List Value} {h : kH} : ex d mL_law 687 L S h = ex d mL_law 688 L (.int 1 :: S) h := exs rfl
set_option maxRecDepth 100000 in
theorem L_law_688 {d : Nat} {L : kL} {S : List Value} {h : kH} {x y : Int32} : ex d mL_law 688 L (.int y :: .int x :: S) h = ex d mL_law 689 L (.int (x + y) :: S) h := exs rfl
set_option maxRecDepth 100000 in
theorem L_law_689 {d : Nat} {L : kL} {S : List Value} {h : kH} {q : Nat} {i : Int32} : ex d mL_law 689 L (.int i :: .ref q :: S) h = (kil h q i).bind fun v => ex d mL_law 690 L (.int v :: S) h := exb (F := fun v => .int v :: S) (G := fun _ => h) rfl
set_option maxRecDepth 100000 in
theorem L_law_690 {d : Nat} {S : List Value} {h : kH} {a1 a2 a3 : Option Value} {x : Nat} : ex d mL_law 690 [some (.ref x), a1, a2, a3] S h = ex d mL_law 691 [some (.ref x), a1, a2, a3] (.ref x :: S) h := exs rfl
set_option maxRecDepth 100000 in
theorem L_law_691 {d : Nat} {S : List Value} {h : kH} {a0 a1 a2 : Option Value} {x : Int32} : ex d mL_law 691 [a0, a1, a2, some (.int x)] S h = ex d mL_law 692 [a0, a1, a2, some (.int x)] (.int x :: S) h := exs rfl
set_option maxRecDepth 100000 in
theorem L_law_692 {d : Nat} {L : kL} {S : List Value} {h : kH} : ex d mL_law 692 L S h = ex d mL_law 693 L (.int 2 :: S) h := exs rfl
set_option maxRecDepth 100000 in
theorem L_law_693 {d : Nat} {L : kL} {S : List Value} {h : kH} {x y : Int32} : ex d mL_law 693 L (.int y :: .int x :: S) h = ex d mL_law 694 L (.int (x + y) :: S) h := exs rfl
set_option maxRecDepth 100000 in
theorem L_law_694 {d : Nat} {L : kL} {S : List Value} {h : kH} {q : Nat} {i : Int32} : ex d mL_law 694 L (.int i :: .ref q :: S) h = (kil h q i).bind fun v => ex d mL_law 695 L (.int v :: S) h := exb (F := fun v => .int v :: S) (G := fun _ => h) rfl
set_option maxRecDepth 100000 in
theorem L_law_695 {d : Nat} {L : kL} {h : kH} {v0 : Int32} {v1 : Int32} {r0 : Int32} {q : Nat} : ex d mL_law 695 L [.int v1, .int v0, .ref q, .int r0] h = if kis h 13 q = true then (rn d mX12_ratio [.ref q, .int v0, .int v1] h).bind fun r => ex d mL_law 698 L (r.1.toList ++ [.int r0]) r.2 else none := exv rfl (Nat.le_of_ble_eq_true rfl)
set_option maxRecDepth 100000 in
theorem L_law_698 {d : Nat} {L : kL} {S : List Value} {h : kH} {x y : Int32} : ex d mL_law 698 L (.int y :: .int x :: S) h = if x = y then ex d mL_law 1506 L S h else ex d mL_law 701 L S h := exc rfl
set_option maxRecDepth 100000 in
theorem L_law_701 {d : Nat} {L : kL} {S : List Value} {h : kH} : ex d mL_law 701 L S h = ex d mL_law 702 L (.int 0 :: S) h := exs rfl
set_option maxRecDepth 100000 in
theorem L_law_702_0 {d : Nat} {L : kL} {h : kH} : ex d mL_law 702 L [.int 0] h = some (some (.int 0), h) := exr rfl
set_option maxRecDepth 100000 in
theorem L_law_702_1 {d : Nat} {L : kL} {h : kH} : ex d mL_law 702 L [.int 1] h = some (some (.int 1), h) := exr rfl
set_option maxRecDepth 100000 in
theorem L_law_702 {d : Nat} {L : kL} {h : kH} {v : Int32} (hv : v = 0 ∨ v = 1) : ex d mL_law 702 L [.int v] h = some (some (.int v), h) := by rcases hv with rfl | rfl <;> exact exr rfl
set_option maxRecDepth 100000 in
theorem L_law_703 {d : Nat} {S : List Value} {h : kH} {a0 a2 a3 : Option Value} {x : Nat} : ex d mL_law 703 [a0, some (.ref x), a2, a3] S h = ex d mL_law 704 [a0, some (.ref x), a2, a3] (.ref x :: S) h := exs rfl
set_option maxRecDepth 100000 in
theorem L_law_704 {d : Nat} {S : List Value} {h : kH} {a1 a2 a3 : Option Value} {x : Nat} : ex d mL_law 704 [some (.ref x), a1, a2, a3] S h = ex d mL_law 705 [some (.ref x), a1, a2, a3] (.ref x :: S) h := exs rfl
set_option maxRecDepth 100000 in
theorem L_law_705 {d : Nat} {S : List Value} {h : kH} {a0 a1 a2 : Option Value} {x : Int32} : ex d mL_law 705 [a0, a1, a2, some (.int x)] S h = ex d mL_law 706 [a0, a1, a2, some (.int x)] (.int x :: S) h := exs rfl
set_option maxRecDepth 100000 in
theorem L_law_706 {d : Nat} {L : kL} {S : List Value} {h : kH} : ex d mL_law 706 L S h = ex d mL_law 707 L (.int 1 :: S) h := exs rfl
set_option maxRecDepth 100000 in
theorem L_law_707 {d : Nat} {L : kL} {S : List Value} {h : kH} {x y : Int32} : ex d mL_law 707 L (.int y :: .int x :: S) h = ex d mL_law 708 L (.int (x + y) :: S) h := exs rfl
set_option maxRecDepth 100000 in
theorem L_law_708 {d : Nat} {L : kL} {S : List Value} {h : kH} {q : Nat} {i : Int32} : ex d mL_law 708 L (.int i :: .ref q :: S) h = (kil h q i).bind fun v => ex d mL_law 709 L (.int v :: S) h := exb (F := fun v => .int v :: S) (G := fun _ => h) rfl
set_option maxRecDepth 100000 in
theorem L_law_709 {d : Nat} {S : List Value} {h : kH} {a1 a2 a3 : Option Value} {x : Nat} : ex d mL_law 709 [some (.ref x), a1, a2, a3] S h = ex d mL_law 710 [some (.ref x), a1, a2, a3] (.ref x :: S) h := exs rfl
set_option maxRecDepth 100000 in
theorem L_law_710 {d : Nat} {S : List Value} {h : kH} {a0 a1 a2 : Option Value} {x : Int32} : ex d mL_law 710 [a0, a1, a2, some (.int x)] S h = ex d mL_law 711 [a0, a1, a2, some (.int x)] (.int x :: S) h := exs rfl
set_option maxRecDepth 100000 in
theorem L_law_711 {d : Nat} {L : kL} {S : List Value} {h : kH} : ex d mL_law 711 L S h = ex d mL_law 712 L (.int 2 :: S) h := exs rfl
set_option maxRecDepth 100000 in
theorem L_law_712 {d : Nat} {L : kL} {S : List Value} {h : kH} {x y : Int32} : ex d mL_law 712 L (.int y :: .int x :: S) h = ex d mL_law 713 L (.int (x + y) :: S) h := exs rfl
set_option maxRecDepth 100000 in
theorem L_law_713 {d : Nat} {L : kL} {S : List Value} {h : kH} {q : Nat} {i : Int32} : ex d mL_law 713 L (.int i :: .ref q :: S) h = (kil h q i).bind fun v => ex d mL_law 714 L (.int v :: S) h := exb (F := fun v => .int v :: S) (G := fun _ => h) rfl
set_option maxRecDepth 100000 in
theorem L_law_714 {d : Nat} {S : List Value} {h : kH} {a1 a2 a3 : Option Value} {x : Nat} : ex d mL_law 714 [some (.ref x), a1, a2, a3] S h = ex d mL_law 715 [some (.ref x), a1, a2, a3] (.ref x :: S) h := exs rfl
set_option maxRecDepth 100000 in
theorem L_law_715 {d : Nat} {S : List Value} {h : kH} {a0 a1 a2 : Option Value} {x : Int32} : ex d mL_law 715 [a0, a1, a2, some (.int x)] S h = ex d mL_law 716 [a0, a1, a2, some (.int x)] (.int x :: S) h := exs rfl
set_option maxRecDepth 100000 in
theorem L_law_716 {d : Nat} {L : kL} {S : List Value} {h : kH} : ex d mL_law 716 L S h = ex d mL_law 717 L (.int 3 :: S) h := exs rfl
set_option maxRecDepth 100000 in
theorem L_law_717 {d : Nat} {L : kL} {S : List Value} {h : kH} {x y : Int32} : ex d mL_law 717 L (.int y :: .int x :: S) h = ex d mL_law 718 L (.int (x + y) :: S) h := exs rfl
set_option maxRecDepth 100000 in
theorem L_law_718 {d : Nat} {L : kL} {S : List Value} {h : kH} {q : Nat} {i : Int32} : ex d mL_law 718 L (.int i :: .ref q :: S) h = (kil h q i).bind fun v => ex d mL_law 719 L (.int v :: S) h := exb (F := fun v => .int v :: S) (G := fun _ => h) rfl
set_option maxRecDepth 100000 in
theorem L_law_719 {d : Nat} {L : kL} {h : kH} {v0 : Int32} {v1 : Int32} {v2 : Int32} {q : Nat} : ex d mL_law 719 L [.int v2, .int v1, .int v0, .ref q] h = if kis h 12 q = true then (rn d mX11_comb [.ref q, .int v0, .int v1, .int v2] h).bind fun r => ex d mL_law 722 L (r.1.toList ++ []) r.2 else none := exv rfl (Nat.le_of_ble_eq_true rfl)
set_option maxRecDepth 100000 in
theorem L_law_722 {d : Nat} {S : List Value} {h : kH} {a0 a1 a3 : Option Value} {x : Nat} : ex d mL_law 722 [a0, a1, some (.ref x), a3] S h = ex d mL_law 723 [a0, a1, some (.ref x), a3] (.ref x :: S) h := exs rfl
set_option maxRecDepth 100000 in
theorem L_law_723 {d : Nat} {S : List Value} {h : kH} {a1 a2 a3 : Option Value} {x : Nat} : ex d mL_law 723 [some (.ref x), a1, a2, a3] S h = ex d mL_law 724 [some (.ref x), a1, a2, a3] (.ref x :: S) h := exs rfl
set_option maxRecDepth 100000 in
theorem L_law_724 {d : Nat} {S : List Value} {h : kH} {a0 a1 a2 : Option Value} {x : Int32} : ex d mL_law 724 [a0, a1, a2, some (.int x)] S h = ex d mL_law 725 [a0, a1, a2, some (.int x)] (.int x :: S) h := exs rfl
set_option maxRecDepth 100000 in
theorem L_law_725 {d : Nat} {L : kL} {S : List Value} {h : kH} : ex d mL_law 725 L S h = ex d mL_law 726 L (.int 1 :: S) h := exs rfl
set_option maxRecDepth 100000 in
theorem L_law_726 {d : Nat} {L : kL} {S : List Value} {h : kH} {x y : Int32} : ex d mL_law 726 L (.int y :: .int x :: S) h = ex d mL_law 727 L (.int (x + y) :: S) h := exs rfl
set_option maxRecDepth 100000 in
theorem L_law_727 {d : Nat} {L : kL} {S : List Value} {h : kH} {q : Nat} {i : Int32} : ex d mL_law 727 L (.int i :: .ref q :: S) h = (kil h q i).bind fun v => ex d mL_law 728 L (.int v :: S) h := exb (F := fun v => .int v :: S) (G := fun _ => h) rfl
set_option maxRecDepth 100000 in
theorem L_law_728 {d : Nat} {S : List Value} {h : kH} {a1 a2 a3 : Option Value} {x : Nat} : ex d mL_law 728 [some (.ref x), a1, a2, a3] S h = ex d mL_law 729 [some (.ref x), a1, a2, a3] (.ref x :: S) h := exs rfl
set_option maxRecDepth 100000 in
theorem L_law_729 {d : Nat} {S : List Value} {h : kH} {a0 a1 a2 : Option Value} {x : Int32} : ex d mL_law 729 [a0, a1, a2, some (.int x)] S h = ex d mL_law 730 [a0, a1, a2, some (.int x)] (.int x :: S) h := exs rfl
set_option maxRecDepth 100000 in
theorem L_law_730 {d : Nat} {L : kL} {S : List Value} {h : kH} : ex d mL_law 730 L S h = ex d mL_law 731 L (.int 2 :: S) h := exs rfl
set_option maxRecDepth 100000 in
theorem L_law_731 {d : Nat} {L : kL} {S : List Value} {h : kH} {x y : Int32} : ex d mL_law 731 L (.int y :: .int x :: S) h = ex d mL_law 732 L (.int (x + y) :: S) h := exs rfl
set_option maxRecDepth 100000 in
theorem L_law_732 {d : Nat} {L : kL} {S : List Value} {h : kH} {q : Nat} {i : Int32} : ex d mL_law 732 L (.int i :: .ref q :: S) h = (kil h q i).bind fun v => ex d mL_law 733 L (.int v :: S) h := exb (F := fun v => .int v :: S) (G := fun _ => h) rfl
set_option maxRecDepth 100000 in
theorem L_law_733 {d : Nat} {S : List Value} {h : kH} {a1 a2 a3 : Option Value} {x : Nat} : ex d mL_law 733 [some (.ref x), a1, a2, a3] S h = ex d mL_law 734 [some (.ref x), a1, a2, a3] (.ref x :: S) h := exs rfl
set_option maxRecDepth 100000 in
theorem L_law_734 {d : Nat} {S : List Value} {h : kH} {a0 a1 a2 : Option Value} {x : Int32} : ex d mL_law 734 [a0, a1, a2, some (.int x)] S h = ex d mL_law 735 [a0, a1, a2, some (.int x)] (.int x :: S) h := exs rfl
set_option maxRecDepth 100000 in
theorem L_law_735 {d : Nat} {L : kL} {S : List Value} {h : kH} : ex d mL_law 735 L S h = ex d mL_law 736 L (.int 3 :: S) h := exs rfl
set_option maxRecDepth 100000 in
theorem L_law_736 {d : Nat} {L : kL} {S : List Value} {h : kH} {x y : Int32} : ex d mL_law 736 L (.int y :: .int x :: S) h = ex d mL_law 737 L (.int (x + y) :: S) h := exs rfl
set_option maxRecDepth 100000 in
theorem L_law_737 {d : Nat} {L : kL} {S : List Value} {h : kH} {q : Nat} {i : Int32} : ex d mL_law 737 L (.int i :: .ref q :: S) h = (kil h q i).bind fun v => ex d mL_law 738 L (.int v :: S) h := exb (F := fun v => .int v :: S) (G := fun _ => h) rfl
set_option maxRecDepth 100000 in
theorem L_law_738 {d : Nat} {L : kL} {h : kH} {v0 : Int32} {v1 : Int32} {v2 : Int32} {r0 : Int32} {q : Nat} : ex d mL_law 738 L [.int v2, .int v1, .int v0, .ref q, .int r0] h = if kis h 13 q = true then (rn d mX12_comb [.ref q, .int v0, .int v1, .int v2] h).bind fun r => ex d mL_law 741 L (r.1.toList ++ [.int r0]) r.2 else none := exv rfl (Nat.le_of_ble_eq_true rfl)
set_option maxRecDepth 100000 in
theorem L_law_741 {d : Nat} {L : kL} {S : List Value} {h : kH} {x y : Int32} : ex d mL_law 741 L (.int y :: .int x :: S) h = if x = y then ex d mL_law 1506 L S h else ex d mL_law 744 L S h := exc rfl
set_option maxRecDepth 100000 in
theorem L_law_744 {d : Nat} {L : kL} {S : List Value} {h : kH} : ex d mL_law 744 L S h = ex d mL_law 745 L (.int 0 :: S) h := exs rfl
set_option maxRecDepth 100000 in
theorem L_law_745_0 {d : Nat} {L : kL} {h : kH} : ex d mL_law 745 L [.int 0] h = some (some (.int 0), h) := exr rfl
set_option maxRecDepth 100000 in
theorem L_law_745_1 {d : Nat} {L : kL} {h : kH} : ex d mL_law 745 L [.int 1] h = some (some (.int 1), h) := exr rfl
set_option maxRecDepth 100000 in
theorem L_law_745 {d : Nat} {L : kL} {h : kH} {v : Int32} (hv : v = 0 ∨ v = 1) : ex d mL_law 745 L [.int v] h = some (some (.int v), h) := by rcases hv with rfl | rfl <;> exact exr rfl
set_option maxRecDepth 100000 in
theorem L_law_746 {d : Nat} {S : List Value} {h : kH} {a0 a2 a3 : Option Value} {x : Nat} : ex d mL_law 746 [a0, some (.ref x), a2, a3] S h = ex d mL_law 747 [a0, some (.ref x), a2, a3] (.ref x :: S) h := exs rfl
set_option maxRecDepth 100000 in
theorem L_law_747 {d : Nat} {S : List Value} {h : kH} {a1 a2 a3 : Option Value} {x : Nat} : ex d mL_law 747 [some (.ref x), a1, a2, a3] S h = ex d mL_law 748 [some (.ref x), a1, a2, a3] (.ref x :: S) h := exs rfl
set_option maxRecDepth 100000 in
theorem L_law_748 {d : Nat} {S : List Value} {h : kH} {a0 a1 a2 : Option Value} {x : Int32} : ex d mL_law 748 [a0, a1, a2, some (.int x)] S h = ex d mL_law 749 [a0, a1, a2, some (.int x)] (.int x :: S) h := exs rfl
set_option maxRecDepth 100000 in
theorem L_law_749 {d : Nat} {L : kL} {S : List Value} {h : kH} : ex d mL_law 749 L S h = ex d mL_law 750 L (.int 1 :: S) h := exs rfl
set_option maxRecDepth 100000 in
theorem L_law_750 {d : Nat} {L : kL} {S : List Value} {h : kH} {x y : Int32} : ex d mL_law 750 L (.int y :: .int x :: S) h = ex d mL_law 751 L (.int (x + y) :: S) h := exs rfl
set_option maxRecDepth 100000 in
theorem L_law_751 {d : Nat} {L : kL} {S : List Value} {h : kH} {q : Nat} {i : Int32} : ex d mL_law 751 L (.int i :: .ref q :: S) h = (kil h q i).bind fun v => ex d mL_law 752 L (.int v :: S) h := exb (F := fun v => .int v :: S) (G := fun _ => h) rfl
set_option maxRecDepth 100000 in
theorem L_law_752 {d : Nat} {S : List Value} {h : kH} {a1 a2 a3 : Option Value} {x : Nat} : ex d mL_law 752 [some (.ref x), a1, a2, a3] S h = ex d mL_law 753 [some (.ref x), a1, a2, a3] (.ref x :: S) h := exs rfl
set_option maxRecDepth 100000 in
theorem L_law_753 {d : Nat} {S : List Value} {h : kH} {a0 a1 a2 : Option Value} {x : Int32} : ex d mL_law 753 [a0, a1, a2, some (.int x)] S h = ex d mL_law 754 [a0, a1, a2, some (.int x)] (.int x :: S) h := exs rfl
set_option maxRecDepth 100000 in
theorem L_law_754 {d : Nat} {L : kL} {S : List Value} {h : kH} : ex d mL_law 754 L S h = ex d mL_law 755 L (.int 2 :: S) h := exs rfl
set_option maxRecDepth 100000 in
theorem L_law_755 {d : Nat} {L : kL} {S : List Value} {h : kH} {x y : Int32} : ex d mL_law 755 L (.int y :: .int x :: S) h = ex d mL_law 756 L (.int (x + y) :: S) h := exs rfl
set_option maxRecDepth 100000 in
theorem L_law_756 {d : Nat} {L : kL} {S : List Value} {h : kH} {q : Nat} {i : Int32} : ex d mL_law 756 L (.int i :: .ref q :: S) h = (kil h q i).bind fun v => ex d mL_law 757 L (.int v :: S) h := exb (F := fun v => .int v :: S) (G := fun _ => h) rfl
set_option maxRecDepth 100000 in
theorem L_law_757 {d : Nat} {S : List Value} {h : kH} {a1 a2 a3 : Option Value} {x : Nat} : ex d mL_law 757 [some (.ref x), a1, a2, a3] S h = ex d mL_law 758 [some (.ref x), a1, a2, a3] (.ref x :: S) h := exs rfl
set_option maxRecDepth 100000 in
theorem L_law_758 {d : Nat} {S : List Value} {h : kH} {a0 a1 a2 : Option Value} {x : Int32} : ex d mL_law 758 [a0, a1, a2, some (.int x)] S h = ex d mL_law 759 [a0, a1, a2, some (.int x)] (.int x :: S) h := exs rfl
set_option maxRecDepth 100000 in
theorem L_law_759 {d : Nat} {L : kL} {S : List Value} {h : kH} : ex d mL_law 759 L S h = ex d mL_law 760 L (.int 3 :: S) h := exs rfl
set_option maxRecDepth 100000 in
theorem L_law_760 {d : Nat} {L : kL} {S : List Value} {h : kH} {x y : Int32} : ex d mL_law 760 L (.int y :: .int x :: S) h = ex d mL_law 761 L (.int (x + y) :: S) h := exs rfl
set_option maxRecDepth 100000 in
theorem L_law_761 {d : Nat} {L : kL} {S : List Value} {h : kH} {q : Nat} {i : Int32} : ex d mL_law 761 L (.int i :: .ref q :: S) h = (kil h q i).bind fun v => ex d mL_law 762 L (.int v :: S) h := exb (F := fun v => .int v :: S) (G := fun _ => h) rfl
set_option maxRecDepth 100000 in
theorem L_law_762 {d : Nat} {L : kL} {h : kH} {v0 : Int32} {v1 : Int32} {v2 : Int32} {q : Nat} : ex d mL_law 762 L [.int v2, .int v1, .int v0, .ref q] h = if kis h 12 q = true then (rn d mX11_hit [.ref q, .int v0, .int v1, .int v2] h).bind fun r => ex d mL_law 765 L (r.1.toList ++ []) r.2 else none := exv rfl (Nat.le_of_ble_eq_true rfl)
set_option maxRecDepth 100000 in
theorem L_law_765 {d : Nat} {S : List Value} {h : kH} {a0 a1 a3 : Option Value} {x : Nat} : ex d mL_law 765 [a0, a1, some (.ref x), a3] S h = ex d mL_law 766 [a0, a1, some (.ref x), a3] (.ref x :: S) h := exs rfl
set_option maxRecDepth 100000 in
theorem L_law_766 {d : Nat} {S : List Value} {h : kH} {a1 a2 a3 : Option Value} {x : Nat} : ex d mL_law 766 [some (.ref x), a1, a2, a3] S h = ex d mL_law 767 [some (.ref x), a1, a2, a3] (.ref x :: S) h := exs rfl
set_option maxRecDepth 100000 in
theorem L_law_767 {d : Nat} {S : List Value} {h : kH} {a0 a1 a2 : Option Value} {x : Int32} : ex d mL_law 767 [a0, a1, a2, some (.int x)] S h = ex d mL_law 768 [a0, a1, a2, some (.int x)] (.int x :: S) h := exs rfl
set_option maxRecDepth 100000 in
theorem L_law_768 {d : Nat} {L : kL} {S : List Value} {h : kH} : ex d mL_law 768 L S h = ex d mL_law 769 L (.int 1 :: S) h := exs rfl
set_option maxRecDepth 100000 in
theorem L_law_769 {d : Nat} {L : kL} {S : List Value} {h : kH} {x y : Int32} : ex d mL_law 769 L (.int y :: .int x :: S) h = ex d mL_law 770 L (.int (x + y) :: S) h := exs rfl
set_option maxRecDepth 100000 in
theorem L_law_770 {d : Nat} {L : kL} {S : List Value} {h : kH} {q : Nat} {i : Int32} : ex d mL_law 770 L (.int i :: .ref q :: S) h = (kil h q i).bind fun v => ex d mL_law 771 L (.int v :: S) h := exb (F := fun v => .int v :: S) (G := fun _ => h) rfl
set_option maxRecDepth 100000 in
theorem L_law_771 {d : Nat} {S : List Value} {h : kH} {a1 a2 a3 : Option Value} {x : Nat} : ex d mL_law 771 [some (.ref x), a1, a2, a3] S h = ex d mL_law 772 [some (.ref x), a1, a2, a3] (.ref x :: S) h := exs rfl
set_option maxRecDepth 100000 in
theorem L_law_772 {d : Nat} {S : List Value} {h : kH} {a0 a1 a2 : Option Value} {x : Int32} : ex d mL_law 772 [a0, a1, a2, some (.int x)] S h = ex d mL_law 773 [a0, a1, a2, some (.int x)] (.int x :: S) h := exs rfl
set_option maxRecDepth 100000 in
theorem L_law_773 {d : Nat} {L : kL} {S : List Value} {h : kH} : ex d mL_law 773 L S h = ex d mL_law 774 L (.int 2 :: S) h := exs rfl
set_option maxRecDepth 100000 in
theorem L_law_774 {d : Nat} {L : kL} {S : List Value} {h : kH} {x y : Int32} : ex d mL_law 774 L (.int y :: .int x :: S) h = ex d mL_law 775 L (.int (x + y) :: S) h := exs rfl
set_option maxRecDepth 100000 in
theorem L_law_775 {d : Nat} {L : kL} {S : List Value} {h : kH} {q : Nat} {i : Int32} : ex d mL_law 775 L (.int i :: .ref q :: S) h = (kil h q i).bind fun v => ex d mL_law 776 L (.int v :: S) h := exb (F := fun v => .int v :: S) (G := fun _ => h) rfl
set_option maxRecDepth 100000 in
theorem L_law_776 {d : Nat} {S : List Value} {h : kH} {a1 a2 a3 : Option Value} {x : Nat} : ex d mL_law 776 [some (.ref x), a1, a2, a3] S h = ex d mL_law 777 [some (.ref x), a1, a2, a3] (.ref x :: S) h := exs rfl
set_option maxRecDepth 100000 in
theorem L_law_777 {d : Nat} {S : List Value} {h : kH} {a0 a1 a2 : Option Value} {x : Int32} : ex d mL_law 777 [a0, a1, a2, some (.int x)] S h = ex d mL_law 778 [a0, a1, a2, some (.int x)] (.int x :: S) h := exs rfl
set_option maxRecDepth 100000 in
theorem L_law_778 {d : Nat} {L : kL} {S : List Value} {h : kH} : ex d mL_law 778 L S h = ex d mL_law 779 L (.int 3 :: S) h := exs rfl
set_option maxRecDepth 100000 in
theorem L_law_779 {d : Nat} {L : kL} {S : List Value} {h : kH} {x y : Int32} : ex d mL_law 779 L (.int y :: .int x :: S) h = ex d mL_law 780 L (.int (x + y) :: S) h := exs rfl
set_option maxRecDepth 100000 in
theorem L_law_780 {d : Nat} {L : kL} {S : List Value} {h : kH} {q : Nat} {i : Int32} : ex d mL_law 780 L (.int i :: .ref q :: S) h = (kil h q i).bind fun v => ex d mL_law 781 L (.int v :: S) h := exb (F := fun v => .int v :: S) (G := fun _ => h) rfl
set_option maxRecDepth 100000 in
theorem L_law_781 {d : Nat} {L : kL} {h : kH} {v0 : Int32} {v1 : Int32} {v2 : Int32} {r0 : Int32} {q : Nat} : ex d mL_law 781 L [.int v2, .int v1, .int v0, .ref q, .int r0] h = if kis h 13 q = true then (rn d mX12_hit [.ref q, .int v0, .int v1, .int v2] h).bind fun r => ex d mL_law 784 L (r.1.toList ++ [.int r0]) r.2 else none := exv rfl (Nat.le_of_ble_eq_true rfl)
set_option maxRecDepth 100000 in
theorem L_law_784 {d : Nat} {L : kL} {S : List Value} {h : kH} {x y : Int32} : ex d mL_law 784 L (.int y :: .int x :: S) h = if x = y then ex d mL_law 1506 L S h else ex d mL_law 787 L S h := exc rfl
set_option maxRecDepth 100000 in
theorem L_law_787 {d : Nat} {L : kL} {S : List Value} {h : kH} : ex d mL_law 787 L S h = ex d mL_law 788 L (.int 0 :: S) h := exs rfl
set_option maxRecDepth 100000 in
theorem L_law_788_0 {d : Nat} {L : kL} {h : kH} : ex d mL_law 788 L [.int 0] h = some (some (.int 0), h) := exr rfl
set_option maxRecDepth 100000 in
theorem L_law_788_1 {d : Nat} {L : kL} {h : kH} : ex d mL_law 788 L [.int 1] h = some (some (.int 1), h) := exr rfl
set_option maxRecDepth 100000 in
theorem L_law_788 {d : Nat} {L : kL} {h : kH} {v : Int32} (hv : v = 0 ∨ v = 1) : ex d mL_law 788 L [.int v] h = some (some (.int v), h) := by rcases hv with rfl | rfl <;> exact exr rfl
set_option maxRecDepth 100000 in
theorem L_law_789 {d : Nat} {S : List Value} {h : kH} {a0 a2 a3 : Option Value} {x : Nat} : ex d mL_law 789 [a0, some (.ref x), a2, a3] S h = ex d mL_law 790 [a0, some (.ref x), a2, a3] (.ref x :: S) h := exs rfl
set_option maxRecDepth 100000 in
theorem L_law_790 {d : Nat} {S : List Value} {h : kH} {a1 a2 a3 : Option Value} {x : Nat} : ex d mL_law 790 [some (.ref x), a1, a2, a3] S h = ex d mL_law 791 [some (.ref x), a1, a2, a3] (.ref x :: S) h := exs rfl
set_option maxRecDepth 100000 in
theorem L_law_791 {d : Nat} {S : List Value} {h : kH} {a0 a1 a2 : Option Value} {x : Int32} : ex d mL_law 791 [a0, a1, a2, some (.int x)] S h = ex d mL_law 792 [a0, a1, a2, some (.int x)] (.int x :: S) h := exs rfl
set_option maxRecDepth 100000 in
theorem L_law_792 {d : Nat} {L : kL} {S : List Value} {h : kH} : ex d mL_law 792 L S h = ex d mL_law 793 L (.int 1 :: S) h := exs rfl
set_option maxRecDepth 100000 in
theorem L_law_793 {d : Nat} {L : kL} {S : List Value} {h : kH} {x y : Int32} : ex d mL_law 793 L (.int y :: .int x :: S) h = ex d mL_law 794 L (.int (x + y) :: S) h := exs rfl
set_option maxRecDepth 100000 in
theorem L_law_794 {d : Nat} {L : kL} {S : List Value} {h : kH} {q : Nat} {i : Int32} : ex d mL_law 794 L (.int i :: .ref q :: S) h = (kil h q i).bind fun v => ex d mL_law 795 L (.int v :: S) h := exb (F := fun v => .int v :: S) (G := fun _ => h) rfl
set_option maxRecDepth 100000 in
theorem L_law_795 {d : Nat} {S : List Value} {h : kH} {a1 a2 a3 : Option Value} {x : Nat} : ex d mL_law 795 [some (.ref x), a1, a2, a3] S h = ex d mL_law 796 [some (.ref x), a1, a2, a3] (.ref x :: S) h := exs rfl
set_option maxRecDepth 100000 in
theorem L_law_796 {d : Nat} {S : List Value} {h : kH} {a0 a1 a2 : Option Value} {x : Int32} : ex d mL_law 796 [a0, a1, a2, some (.int x)] S h = ex d mL_law 797 [a0, a1, a2, some (.int x)] (.int x :: S) h := exs rfl
set_option maxRecDepth 100000 in
theorem L_law_797 {d : Nat} {L : kL} {S : List Value} {h : kH} : ex d mL_law 797 L S h = ex d mL_law 798 L (.int 2 :: S) h := exs rfl
set_option maxRecDepth 100000 in
theorem L_law_798 {d : Nat} {L : kL} {S : List Value} {h : kH} {x y : Int32} : ex d mL_law 798 L (.int y :: .int x :: S) h = ex d mL_law 799 L (.int (x + y) :: S) h := exs rfl
set_option maxRecDepth 100000 in
theorem L_law_799 {d : Nat} {L : kL} {S : List Value} {h : kH} {q : Nat} {i : Int32} : ex d mL_law 799 L (.int i :: .ref q :: S) h = (kil h q i).bind fun v => ex d mL_law 800 L (.int v :: S) h := exb (F := fun v => .int v :: S) (G := fun _ => h) rfl
set_option maxRecDepth 100000 in
theorem L_law_800 {d : Nat} {L : kL} {h : kH} {v0 : Int32} {v1 : Int32} {q : Nat} : ex d mL_law 800 L [.int v1, .int v0, .ref q] h = if kis h 12 q = true then (rn d mX11_best [.ref q, .int v0, .int v1] h).bind fun r => ex d mL_law 803 L (r.1.toList ++ []) r.2 else none := exv rfl (Nat.le_of_ble_eq_true rfl)
set_option maxRecDepth 100000 in
theorem L_law_803 {d : Nat} {S : List Value} {h : kH} {a0 a1 a3 : Option Value} {x : Nat} : ex d mL_law 803 [a0, a1, some (.ref x), a3] S h = ex d mL_law 804 [a0, a1, some (.ref x), a3] (.ref x :: S) h := exs rfl
set_option maxRecDepth 100000 in
theorem L_law_804 {d : Nat} {S : List Value} {h : kH} {a1 a2 a3 : Option Value} {x : Nat} : ex d mL_law 804 [some (.ref x), a1, a2, a3] S h = ex d mL_law 805 [some (.ref x), a1, a2, a3] (.ref x :: S) h := exs rfl
set_option maxRecDepth 100000 in
theorem L_law_805 {d : Nat} {S : List Value} {h : kH} {a0 a1 a2 : Option Value} {x : Int32} : ex d mL_law 805 [a0, a1, a2, some (.int x)] S h = ex d mL_law 806 [a0, a1, a2, some (.int x)] (.int x :: S) h := exs rfl
set_option maxRecDepth 100000 in
theorem L_law_806 {d : Nat} {L : kL} {S : List Value} {h : kH} : ex d mL_law 806 L S h = ex d mL_law 807 L (.int 1 :: S) h := exs rfl
set_option maxRecDepth 100000 in
theorem L_law_807 {d : Nat} {L : kL} {S : List Value} {h : kH} {x y : Int32} : ex d mL_law 807 L (.int y :: .int x :: S) h = ex d mL_law 808 L (.int (x + y) :: S) h := exs rfl
set_option maxRecDepth 100000 in
theorem L_law_808 {d : Nat} {L : kL} {S : List Value} {h : kH} {q : Nat} {i : Int32} : ex d mL_law 808 L (.int i :: .ref q :: S) h = (kil h q i).bind fun v => ex d mL_law 809 L (.int v :: S) h := exb (F := fun v => .int v :: S) (G := fun _ => h) rfl
set_option maxRecDepth 100000 in
theorem L_law_809 {d : Nat} {S : List Value} {h : kH} {a1 a2 a3 : Option Value} {x : Nat} : ex d mL_law 809 [some (.ref x), a1, a2, a3] S h = ex d mL_law 810 [some (.ref x), a1, a2, a3] (.ref x :: S) h := exs rfl
set_option maxRecDepth 100000 in
theorem L_law_810 {d : Nat} {S : List Value} {h : kH} {a0 a1 a2 : Option Value} {x : Int32} : ex d mL_law 810 [a0, a1, a2, some (.int x)] S h = ex d mL_law 811 [a0, a1, a2, some (.int x)] (.int x :: S) h := exs rfl
set_option maxRecDepth 100000 in
theorem L_law_811 {d : Nat} {L : kL} {S : List Value} {h : kH} : ex d mL_law 811 L S h = ex d mL_law 812 L (.int 2 :: S) h := exs rfl
set_option maxRecDepth 100000 in
theorem L_law_812 {d : Nat} {L : kL} {S : List Value} {h : kH} {x y : Int32} : ex d mL_law 812 L (.int y :: .int x :: S) h = ex d mL_law 813 L (.int (x + y) :: S) h := exs rfl
set_option maxRecDepth 100000 in
theorem L_law_813 {d : Nat} {L : kL} {S : List Value} {h : kH} {q : Nat} {i : Int32} : ex d mL_law 813 L (.int i :: .ref q :: S) h = (kil h q i).bind fun v => ex d mL_law 814 L (.int v :: S) h := exb (F := fun v => .int v :: S) (G := fun _ => h) rfl
set_option maxRecDepth 100000 in
theorem L_law_814 {d : Nat} {L : kL} {h : kH} {v0 : Int32} {v1 : Int32} {r0 : Int32} {q : Nat} : ex d mL_law 814 L [.int v1, .int v0, .ref q, .int r0] h = if kis h 13 q = true then (rn d mX12_best [.ref q, .int v0, .int v1] h).bind fun r => ex d mL_law 817 L (r.1.toList ++ [.int r0]) r.2 else none := exv rfl (Nat.le_of_ble_eq_true rfl)
set_option maxRecDepth 100000 in
theorem L_law_817 {d : Nat} {L : kL} {S : List Value} {h : kH} {x y : Int32} : ex d mL_law 817 L (.int y :: .int x :: S) h = if x = y then ex d mL_law 1506 L S h else ex d mL_law 820 L S h := exc rfl
set_option maxRecDepth 100000 in
theorem L_law_820 {d : Nat} {L : kL} {S : List Value} {h : kH} : ex d mL_law 820 L S h = ex d mL_law 821 L (.int 0 :: S) h := exs rfl
set_option maxRecDepth 100000 in
theorem L_law_821_0 {d : Nat} {L : kL} {h : kH} : ex d mL_law 821 L [.int 0] h = some (some (.int 0), h) := exr rfl
set_option maxRecDepth 100000 in
theorem L_law_821_1 {d : Nat} {L : kL} {h : kH} : ex d mL_law 821 L [.int 1] h = some (some (.int 1), h) := exr rfl
set_option maxRecDepth 100000 in
theorem L_law_821 {d : Nat} {L : kL} {h : kH} {v : Int32} (hv : v = 0 ∨ v = 1) : ex d mL_law 821 L [.int v] h = some (some (.int v), h) := by rcases hv with rfl | rfl <;> exact exr rfl
set_option maxRecDepth 100000 in
theorem L_law_822 {d : Nat} {S : List Value} {h : kH} {a0 a2 a3 : Option Value} {x : Nat} : ex d mL_law 822 [a0, some (.ref x), a2, a3] S h = ex d mL_law 823 [a0, some (.ref x), a2, a3] (.ref x :: S) h := exs rfl
set_option maxRecDepth 100000 in
theorem L_law_823 {d : Nat} {S : List Value} {h : kH} {a1 a2 a3 : Option Value} {x : Nat} : ex d mL_law 823 [some (.ref x), a1, a2, a3] S h = ex d mL_law 824 [some (.ref x), a1, a2, a3] (.ref x :: S) h := exs rfl
set_option maxRecDepth 100000 in
theorem L_law_824 {d : Nat} {S : List Value} {h : kH} {a0 a1 a2 : Option Value} {x : Int32} : ex d mL_law 824 [a0, a1, a2, some (.int x)] S h = ex d mL_law 825 [a0, a1, a2, some (.int x)] (.int x :: S) h := exs rfl
set_option maxRecDepth 100000 in
theorem L_law_825 {d : Nat} {L : kL} {S : List Value} {h : kH} : ex d mL_law 825 L S h = ex d mL_law 826 L (.int 1 :: S) h := exs rfl
set_option maxRecDepth 100000 in
theorem L_law_826 {d : Nat} {L : kL} {S : List Value} {h : kH} {x y : Int32} : ex d mL_law 826 L (.int y :: .int x :: S) h = ex d mL_law 827 L (.int (x + y) :: S) h := exs rfl
set_option maxRecDepth 100000 in
theorem L_law_827 {d : Nat} {L : kL} {S : List Value} {h : kH} {q : Nat} {i : Int32} : ex d mL_law 827 L (.int i :: .ref q :: S) h = (kil h q i).bind fun v => ex d mL_law 828 L (.int v :: S) h := exb (F := fun v => .int v :: S) (G := fun _ => h) rfl
set_option maxRecDepth 100000 in
theorem L_law_828 {d : Nat} {S : List Value} {h : kH} {a1 a2 a3 : Option Value} {x : Nat} : ex d mL_law 828 [some (.ref x), a1, a2, a3] S h = ex d mL_law 829 [some (.ref x), a1, a2, a3] (.ref x :: S) h := exs rfl
set_option maxRecDepth 100000 in
theorem L_law_829 {d : Nat} {S : List Value} {h : kH} {a0 a1 a2 : Option Value} {x : Int32} : ex d mL_law 829 [a0, a1, a2, some (.int x)] S h = ex d mL_law 830 [a0, a1, a2, some (.int x)] (.int x :: S) h := exs rfl
set_option maxRecDepth 100000 in
theorem L_law_830 {d : Nat} {L : kL} {S : List Value} {h : kH} : ex d mL_law 830 L S h = ex d mL_law 831 L (.int 2 :: S) h := exs rfl
set_option maxRecDepth 100000 in
theorem L_law_831 {d : Nat} {L : kL} {S : List Value} {h : kH} {x y : Int32} : ex d mL_law 831 L (.int y :: .int x :: S) h = ex d mL_law 832 L (.int (x + y) :: S) h := exs rfl
set_option maxRecDepth 100000 in
theorem L_law_832 {d : Nat} {L : kL} {S : List Value} {h : kH} {q : Nat} {i : Int32} : ex d mL_law 832 L (.int i :: .ref q :: S) h = (kil h q i).bind fun v => ex d mL_law 833 L (.int v :: S) h := exb (F := fun v => .int v :: S) (G := fun _ => h) rfl
set_option maxRecDepth 100000 in
theorem L_law_833 {d : Nat} {L : kL} {h : kH} {v0 : Int32} {v1 : Int32} {q : Nat} : ex d mL_law 833 L [.int v1, .int v0, .ref q] h = if kis h 12 q = true then (rn d mX11_side [.ref q, .int v0, .int v1] h).bind fun r => ex d mL_law 836 L (r.1.toList ++ []) r.2 else none := exv rfl (Nat.le_of_ble_eq_true rfl)
set_option maxRecDepth 100000 in
theorem L_law_836 {d : Nat} {S : List Value} {h : kH} {a0 a1 a3 : Option Value} {x : Nat} : ex d mL_law 836 [a0, a1, some (.ref x), a3] S h = ex d mL_law 837 [a0, a1, some (.ref x), a3] (.ref x :: S) h := exs rfl
set_option maxRecDepth 100000 in
theorem L_law_837 {d : Nat} {S : List Value} {h : kH} {a1 a2 a3 : Option Value} {x : Nat} : ex d mL_law 837 [some (.ref x), a1, a2, a3] S h = ex d mL_law 838 [some (.ref x), a1, a2, a3] (.ref x :: S) h := exs rfl
set_option maxRecDepth 100000 in
theorem L_law_838 {d : Nat} {S : List Value} {h : kH} {a0 a1 a2 : Option Value} {x : Int32} : ex d mL_law 838 [a0, a1, a2, some (.int x)] S h = ex d mL_law 839 [a0, a1, a2, some (.int x)] (.int x :: S) h := exs rfl
set_option maxRecDepth 100000 in
theorem L_law_839 {d : Nat} {L : kL} {S : List Value} {h : kH} : ex d mL_law 839 L S h = ex d mL_law 840 L (.int 1 :: S) h := exs rfl
set_option maxRecDepth 100000 in
theorem L_law_840 {d : Nat} {L : kL} {S : List Value} {h : kH} {x y : Int32} : ex d mL_law 840 L (.int y :: .int x :: S) h = ex d mL_law 841 L (.int (x + y) :: S) h := exs rfl
set_option maxRecDepth 100000 in
theorem L_law_841 {d : Nat} {L : kL} {S : List Value} {h : kH} {q : Nat} {i : Int32} : ex d mL_law 841 L (.int i :: .ref q :: S) h = (kil h q i).bind fun v => ex d mL_law 842 L (.int v :: S) h := exb (F := fun v => .int v :: S) (G := fun _ => h) rfl
set_option maxRecDepth 100000 in
theorem L_law_842 {d : Nat} {S : List Value} {h : kH} {a1 a2 a3 : Option Value} {x : Nat} : ex d mL_law 842 [some (.ref x), a1, a2, a3] S h = ex d mL_law 843 [some (.ref x), a1, a2, a3] (.ref x :: S) h := exs rfl
set_option maxRecDepth 100000 in
theorem L_law_843 {d : Nat} {S : List Value} {h : kH} {a0 a1 a2 : Option Value} {x : Int32} : ex d mL_law 843 [a0, a1, a2, some (.int x)] S h = ex d mL_law 844 [a0, a1, a2, some (.int x)] (.int x :: S) h := exs rfl
set_option maxRecDepth 100000 in
theorem L_law_844 {d : Nat} {L : kL} {S : List Value} {h : kH} : ex d mL_law 844 L S h = ex d mL_law 845 L (.int 2 :: S) h := exs rfl
set_option maxRecDepth 100000 in
theorem L_law_845 {d : Nat} {L : kL} {S : List Value} {h : kH} {x y : Int32} : ex d mL_law 845 L (.int y :: .int x :: S) h = ex d mL_law 846 L (.int (x + y) :: S) h := exs rfl
set_option maxRecDepth 100000 in
theorem L_law_846 {d : Nat} {L : kL} {S : List Value} {h : kH} {q : Nat} {i : Int32} : ex d mL_law 846 L (.int i :: .ref q :: S) h = (kil h q i).bind fun v => ex d mL_law 847 L (.int v :: S) h := exb (F := fun v => .int v :: S) (G := fun _ => h) rfl
set_option maxRecDepth 100000 in
theorem L_law_847 {d : Nat} {L : kL} {h : kH} {v0 : Int32} {v1 : Int32} {r0 : Int32} {q : Nat} : ex d mL_law 847 L [.int v1, .int v0, .ref q, .int r0] h = if kis h 13 q = true then (rn d mX12_side [.ref q, .int v0, .int v1] h).bind fun r => ex d mL_law 850 L (r.1.toList ++ [.int r0]) r.2 else none := exv rfl (Nat.le_of_ble_eq_true rfl)
set_option maxRecDepth 100000 in
theorem L_law_850 {d : Nat} {L : kL} {S : List Value} {h : kH} {x y : Int32} : ex d mL_law 850 L (.int y :: .int x :: S) h = if x = y then ex d mL_law 1506 L S h else ex d mL_law 853 L S h := exc rfl
set_option maxRecDepth 100000 in
theorem L_law_853 {d : Nat} {L : kL} {S : List Value} {h : kH} : ex d mL_law 853 L S h = ex d mL_law 854 L (.int 0 :: S) h := exs rfl
set_option maxRecDepth 100000 in
theorem L_law_854_0 {d : Nat} {L : kL} {h : kH} : ex d mL_law 854 L [.int 0] h = some (some (.int 0), h) := exr rfl
set_option maxRecDepth 100000 in
theorem L_law_854_1 {d : Nat} {L : kL} {h : kH} : ex d mL_law 854 L [.int 1] h = some (some (.int 1), h) := exr rfl
set_option maxRecDepth 100000 in
theorem L_law_854 {d : Nat} {L : kL} {h : kH} {v : Int32} (hv : v = 0 ∨ v = 1) : ex d mL_law 854 L [.int v] h = some (some (.int v), h) := by rcases hv with rfl | rfl <;> exact exr rfl
set_option maxRecDepth 100000 in
theorem L_law_855 {d : Nat} {S : List Value} {h : kH} {a0 a2 a3 : Option Value} {x : Nat} : ex d mL_law 855 [a0, some (.ref x), a2, a3] S h = ex d mL_law 856 [a0, some (.ref x), a2, a3] (.ref x :: S) h := exs rfl
set_option maxRecDepth 100000 in
theorem L_law_856 {d : Nat} {S : List Value} {h : kH} {a1 a2 a3 : Option Value} {x : Nat} : ex d mL_law 856 [some (.ref x), a1, a2, a3] S h = ex d mL_law 857 [some (.ref x), a1, a2, a3] (.ref x :: S) h := exs rfl
set_option maxRecDepth 100000 in
theorem L_law_857 {d : Nat} {S : List Value} {h : kH} {a0 a1 a2 : Option Value} {x : Int32} : ex d mL_law 857 [a0, a1, a2, some (.int x)] S h = ex d mL_law 858 [a0, a1, a2, some (.int x)] (.int x :: S) h := exs rfl
set_option maxRecDepth 100000 in
theorem L_law_858 {d : Nat} {L : kL} {S : List Value} {h : kH} : ex d mL_law 858 L S h = ex d mL_law 859 L (.int 1 :: S) h := exs rfl
set_option maxRecDepth 100000 in
theorem L_law_859 {d : Nat} {L : kL} {S : List Value} {h : kH} {x y : Int32} : ex d mL_law 859 L (.int y :: .int x :: S) h = ex d mL_law 860 L (.int (x + y) :: S) h := exs rfl
set_option maxRecDepth 100000 in
theorem L_law_860 {d : Nat} {L : kL} {S : List Value} {h : kH} {q : Nat} {i : Int32} : ex d mL_law 860 L (.int i :: .ref q :: S) h = (kil h q i).bind fun v => ex d mL_law 861 L (.int v :: S) h := exb (F := fun v => .int v :: S) (G := fun _ => h) rfl
set_option maxRecDepth 100000 in
theorem L_law_861 {d : Nat} {S : List Value} {h : kH} {a1 a2 a3 : Option Value} {x : Nat} : ex d mL_law 861 [some (.ref x), a1, a2, a3] S h = ex d mL_law 862 [some (.ref x), a1, a2, a3] (.ref x :: S) h := exs rfl
set_option maxRecDepth 100000 in
theorem L_law_862 {d : Nat} {S : List Value} {h : kH} {a0 a1 a2 : Option Value} {x : Int32} : ex d mL_law 862 [a0, a1, a2, some (.int x)] S h = ex d mL_law 863 [a0, a1, a2, some (.int x)] (.int x :: S) h := exs rfl
set_option maxRecDepth 100000 in
theorem L_law_863 {d : Nat} {L : kL} {S : List Value} {h : kH} : ex d mL_law 863 L S h = ex d mL_law 864 L (.int 2 :: S) h := exs rfl
set_option maxRecDepth 100000 in
theorem L_law_864 {d : Nat} {L : kL} {S : List Value} {h : kH} {x y : Int32} : ex d mL_law 864 L (.int y :: .int x :: S) h = ex d mL_law 865 L (.int (x + y) :: S) h := exs rfl
set_option maxRecDepth 100000 in
theorem L_law_865 {d : Nat} {L : kL} {S : List Value} {h : kH} {q : Nat} {i : Int32} : ex d mL_law 865 L (.int i :: .ref q :: S) h = (kil h q i).bind fun v => ex d mL_law 866 L (.int v :: S) h := exb (F := fun v => .int v :: S) (G := fun _ => h) rfl
set_option maxRecDepth 100000 in
theorem L_law_866 {d : Nat} {L : kL} {h : kH} {v0 : Int32} {v1 : Int32} {q : Nat} : ex d mL_law 866 L [.int v1, .int v0, .ref q] h = if kis h 12 q = true then (rn d mX11_shared [.ref q, .int v0, .int v1] h).bind fun r => ex d mL_law 869 L (r.1.toList ++ []) r.2 else none := exv rfl (Nat.le_of_ble_eq_true rfl)
set_option maxRecDepth 100000 in
theorem L_law_869 {d : Nat} {S : List Value} {h : kH} {a0 a1 a3 : Option Value} {x : Nat} : ex d mL_law 869 [a0, a1, some (.ref x), a3] S h = ex d mL_law 870 [a0, a1, some (.ref x), a3] (.ref x :: S) h := exs rfl
set_option maxRecDepth 100000 in
theorem L_law_870 {d : Nat} {S : List Value} {h : kH} {a1 a2 a3 : Option Value} {x : Nat} : ex d mL_law 870 [some (.ref x), a1, a2, a3] S h = ex d mL_law 871 [some (.ref x), a1, a2, a3] (.ref x :: S) h := exs rfl
set_option maxRecDepth 100000 in
theorem L_law_871 {d : Nat} {S : List Value} {h : kH} {a0 a1 a2 : Option Value} {x : Int32} : ex d mL_law 871 [a0, a1, a2, some (.int x)] S h = ex d mL_law 872 [a0, a1, a2, some (.int x)] (.int x :: S) h := exs rfl
set_option maxRecDepth 100000 in
theorem L_law_872 {d : Nat} {L : kL} {S : List Value} {h : kH} : ex d mL_law 872 L S h = ex d mL_law 873 L (.int 1 :: S) h := exs rfl
set_option maxRecDepth 100000 in
theorem L_law_873 {d : Nat} {L : kL} {S : List Value} {h : kH} {x y : Int32} : ex d mL_law 873 L (.int y :: .int x :: S) h = ex d mL_law 874 L (.int (x + y) :: S) h := exs rfl
set_option maxRecDepth 100000 in
theorem L_law_874 {d : Nat} {L : kL} {S : List Value} {h : kH} {q : Nat} {i : Int32} : ex d mL_law 874 L (.int i :: .ref q :: S) h = (kil h q i).bind fun v => ex d mL_law 875 L (.int v :: S) h := exb (F := fun v => .int v :: S) (G := fun _ => h) rfl
set_option maxRecDepth 100000 in
theorem L_law_875 {d : Nat} {S : List Value} {h : kH} {a1 a2 a3 : Option Value} {x : Nat} : ex d mL_law 875 [some (.ref x), a1, a2, a3] S h = ex d mL_law 876 [some (.ref x), a1, a2, a3] (.ref x :: S) h := exs rfl
set_option maxRecDepth 100000 in
theorem L_law_876 {d : Nat} {S : List Value} {h : kH} {a0 a1 a2 : Option Value} {x : Int32} : ex d mL_law 876 [a0, a1, a2, some (.int x)] S h = ex d mL_law 877 [a0, a1, a2, some (.int x)] (.int x :: S) h := exs rfl
set_option maxRecDepth 100000 in
theorem L_law_877 {d : Nat} {L : kL} {S : List Value} {h : kH} : ex d mL_law 877 L S h = ex d mL_law 878 L (.int 2 :: S) h := exs rfl
set_option maxRecDepth 100000 in
theorem L_law_878 {d : Nat} {L : kL} {S : List Value} {h : kH} {x y : Int32} : ex d mL_law 878 L (.int y :: .int x :: S) h = ex d mL_law 879 L (.int (x + y) :: S) h := exs rfl
set_option maxRecDepth 100000 in
theorem L_law_879 {d : Nat} {L : kL} {S : List Value} {h : kH} {q : Nat} {i : Int32} : ex d mL_law 879 L (.int i :: .ref q :: S) h = (kil h q i).bind fun v => ex d mL_law 880 L (.int v :: S) h := exb (F := fun v => .int v :: S) (G := fun _ => h) rfl
set_option maxRecDepth 100000 in
theorem L_law_880 {d : Nat} {L : kL} {h : kH} {v0 : Int32} {v1 : Int32} {r0 : Int32} {q : Nat} : ex d mL_law 880 L [.int v1, .int v0, .ref q, .int r0] h = if kis h 13 q = true then (rn d mX12_shared [.ref q, .int v0, .int v1] h).bind fun r => ex d mL_law 883 L (r.1.toList ++ [.int r0]) r.2 else none := exv rfl (Nat.le_of_ble_eq_true rfl)
set_option maxRecDepth 100000 in
theorem L_law_883 {d : Nat} {L : kL} {S : List Value} {h : kH} {x y : Int32} : ex d mL_law 883 L (.int y :: .int x :: S) h = if x = y then ex d mL_law 1506 L S h else ex d mL_law 886 L S h := exc rfl
set_option maxRecDepth 100000 in
theorem L_law_886 {d : Nat} {L : kL} {S : List Value} {h : kH} : ex d mL_law 886 L S h = ex d mL_law 887 L (.int 0 :: S) h := exs rfl
set_option maxRecDepth 100000 in
theorem L_law_887_0 {d : Nat} {L : kL} {h : kH} : ex d mL_law 887 L [.int 0] h = some (some (.int 0), h) := exr rfl
set_option maxRecDepth 100000 in
theorem L_law_887_1 {d : Nat} {L : kL} {h : kH} : ex d mL_law 887 L [.int 1] h = some (some (.int 1), h) := exr rfl
set_option maxRecDepth 100000 in
theorem L_law_887 {d : Nat} {L : kL} {h : kH} {v : Int32} (hv : v = 0 ∨ v = 1) : ex d mL_law 887 L [.int v] h = some (some (.int v), h) := by rcases hv with rfl | rfl <;> exact exr rfl
set_option maxRecDepth 100000 in
theorem L_law_888 {d : Nat} {S : List Value} {h : kH} {a0 a2 a3 : Option Value} {x : Nat} : ex d mL_law 888 [a0, some (.ref x), a2, a3] S h = ex d mL_law 889 [a0, some (.ref x), a2, a3] (.ref x :: S) h := exs rfl
set_option maxRecDepth 100000 in
theorem L_law_889 {d : Nat} {S : List Value} {h : kH} {a1 a2 a3 : Option Value} {x : Nat} : ex d mL_law 889 [some (.ref x), a1, a2, a3] S h = ex d mL_law 890 [some (.ref x), a1, a2, a3] (.ref x :: S) h := exs rfl
set_option maxRecDepth 100000 in
theorem L_law_890 {d : Nat} {S : List Value} {h : kH} {a0 a1 a2 : Option Value} {x : Int32} : ex d mL_law 890 [a0, a1, a2, some (.int x)] S h = ex d mL_law 891 [a0, a1, a2, some (.int x)] (.int x :: S) h := exs rfl
set_option maxRecDepth 100000 in
theorem L_law_891 {d : Nat} {L : kL} {S : List Value} {h : kH} : ex d mL_law 891 L S h = ex d mL_law 892 L (.int 1 :: S) h := exs rfl
set_option maxRecDepth 100000 in
theorem L_law_892 {d : Nat} {L : kL} {S : List Value} {h : kH} {x y : Int32} : ex d mL_law 892 L (.int y :: .int x :: S) h = ex d mL_law 893 L (.int (x + y) :: S) h := exs rfl
set_option maxRecDepth 100000 in
theorem L_law_893 {d : Nat} {L : kL} {S : List Value} {h : kH} {q : Nat} {i : Int32} : ex d mL_law 893 L (.int i :: .ref q :: S) h = (kil h q i).bind fun v => ex d mL_law 894 L (.int v :: S) h := exb (F := fun v => .int v :: S) (G := fun _ => h) rfl
set_option maxRecDepth 100000 in
theorem L_law_894 {d : Nat} {S : List Value} {h : kH} {a1 a2 a3 : Option Value} {x : Nat} : ex d mL_law 894 [some (.ref x), a1, a2, a3] S h = ex d mL_law 895 [some (.ref x), a1, a2, a3] (.ref x :: S) h := exs rfl
set_option maxRecDepth 100000 in
theorem L_law_895 {d : Nat} {S : List Value} {h : kH} {a0 a1 a2 : Option Value} {x : Int32} : ex d mL_law 895 [a0, a1, a2, some (.int x)] S h = ex d mL_law 896 [a0, a1, a2, some (.int x)] (.int x :: S) h := exs rfl
set_option maxRecDepth 100000 in
theorem L_law_896 {d : Nat} {L : kL} {S : List Value} {h : kH} : ex d mL_law 896 L S h = ex d mL_law 897 L (.int 2 :: S) h := exs rfl
set_option maxRecDepth 100000 in
theorem L_law_897 {d : Nat} {L : kL} {S : List Value} {h : kH} {x y : Int32} : ex d mL_law 897 L (.int y :: .int x :: S) h = ex d mL_law 898 L (.int (x + y) :: S) h := exs rfl
set_option maxRecDepth 100000 in
theorem L_law_898 {d : Nat} {L : kL} {S : List Value} {h : kH} {q : Nat} {i : Int32} : ex d mL_law 898 L (.int i :: .ref q :: S) h = (kil h q i).bind fun v => ex d mL_law 899 L (.int v :: S) h := exb (F := fun v => .int v :: S) (G := fun _ => h) rfl
set_option maxRecDepth 100000 in
theorem L_law_899 {d : Nat} {S : List Value} {h : kH} {a1 a2 a3 : Option Value} {x : Nat} : ex d mL_law 899 [some (.ref x), a1, a2, a3] S h = ex d mL_law 900 [some (.ref x), a1, a2, a3] (.ref x :: S) h := exs rfl
set_option maxRecDepth 100000 in
theorem L_law_900 {d : Nat} {S : List Value} {h : kH} {a0 a1 a2 : Option Value} {x : Int32} : ex d mL_law 900 [a0, a1, a2, some (.int x)] S h = ex d mL_law 901 [a0, a1, a2, some (.int x)] (.int x :: S) h := exs rfl
set_option maxRecDepth 100000 in
theorem L_law_901 {d : Nat} {L : kL} {S : List Value} {h : kH} : ex d mL_law 901 L S h = ex d mL_law 902 L (.int 3 :: S) h := exs rfl
set_option maxRecDepth 100000 in
theorem L_law_902 {d : Nat} {L : kL} {S : List Value} {h : kH} {x y : Int32} : ex d mL_law 902 L (.int y :: .int x :: S) h = ex d mL_law 903 L (.int (x + y) :: S) h := exs rfl
set_option maxRecDepth 100000 in
theorem L_law_903 {d : Nat} {L : kL} {S : List Value} {h : kH} {q : Nat} {i : Int32} : ex d mL_law 903 L (.int i :: .ref q :: S) h = (kil h q i).bind fun v => ex d mL_law 904 L (.int v :: S) h := exb (F := fun v => .int v :: S) (G := fun _ => h) rfl
set_option maxRecDepth 100000 in
theorem L_law_904 {d : Nat} {L : kL} {h : kH} {v0 : Int32} {v1 : Int32} {v2 : Int32} {q : Nat} : ex d mL_law 904 L [.int v2, .int v1, .int v0, .ref q] h = if kis h 12 q = true then (rn d mX11_both [.ref q, .int v0, .int v1, .int v2] h).bind fun r => ex d mL_law 907 L (r.1.toList ++ []) r.2 else none := exv rfl (Nat.le_of_ble_eq_true rfl)
set_option maxRecDepth 100000 in
theorem L_law_907 {d : Nat} {S : List Value} {h : kH} {a0 a1 a3 : Option Value} {x : Nat} : ex d mL_law 907 [a0, a1, some (.ref x), a3] S h = ex d mL_law 908 [a0, a1, some (.ref x), a3] (.ref x :: S) h := exs rfl
set_option maxRecDepth 100000 in
theorem L_law_908 {d : Nat} {S : List Value} {h : kH} {a1 a2 a3 : Option Value} {x : Nat} : ex d mL_law 908 [some (.ref x), a1, a2, a3] S h = ex d mL_law 909 [some (.ref x), a1, a2, a3] (.ref x :: S) h := exs rfl
set_option maxRecDepth 100000 in
theorem L_law_909 {d : Nat} {S : List Value} {h : kH} {a0 a1 a2 : Option Value} {x : Int32} : ex d mL_law 909 [a0, a1, a2, some (.int x)] S h = ex d mL_law 910 [a0, a1, a2, some (.int x)] (.int x :: S) h := exs rfl
set_option maxRecDepth 100000 in
theorem L_law_910 {d : Nat} {L : kL} {S : List Value} {h : kH} : ex d mL_law 910 L S h = ex d mL_law 911 L (.int 1 :: S) h := exs rfl
set_option maxRecDepth 100000 in
theorem L_law_911 {d : Nat} {L : kL} {S : List Value} {h : kH} {x y : Int32} : ex d mL_law 911 L (.int y :: .int x :: S) h = ex d mL_law 912 L (.int (x + y) :: S) h := exs rfl
set_option maxRecDepth 100000 in
theorem L_law_912 {d : Nat} {L : kL} {S : List Value} {h : kH} {q : Nat} {i : Int32} : ex d mL_law 912 L (.int i :: .ref q :: S) h = (kil h q i).bind fun v => ex d mL_law 913 L (.int v :: S) h := exb (F := fun v => .int v :: S) (G := fun _ => h) rfl
set_option maxRecDepth 100000 in
theorem L_law_913 {d : Nat} {S : List Value} {h : kH} {a1 a2 a3 : Option Value} {x : Nat} : ex d mL_law 913 [some (.ref x), a1, a2, a3] S h = ex d mL_law 914 [some (.ref x), a1, a2, a3] (.ref x :: S) h := exs rfl
set_option maxRecDepth 100000 in
theorem L_law_914 {d : Nat} {S : List Value} {h : kH} {a0 a1 a2 : Option Value} {x : Int32} : ex d mL_law 914 [a0, a1, a2, some (.int x)] S h = ex d mL_law 915 [a0, a1, a2, some (.int x)] (.int x :: S) h := exs rfl
set_option maxRecDepth 100000 in
theorem L_law_915 {d : Nat} {L : kL} {S : List Value} {h : kH} : ex d mL_law 915 L S h = ex d mL_law 916 L (.int 2 :: S) h := exs rfl
set_option maxRecDepth 100000 in
theorem L_law_916 {d : Nat} {L : kL} {S : List Value} {h : kH} {x y : Int32} : ex d mL_law 916 L (.int y :: .int x :: S) h = ex d mL_law 917 L (.int (x + y) :: S) h := exs rfl
set_option maxRecDepth 100000 in
theorem L_law_917 {d : Nat} {L : kL} {S : List Value} {h : kH} {q : Nat} {i : Int32} : ex d mL_law 917 L (.int i :: .ref q :: S) h = (kil h q i).bind fun v => ex d mL_law 918 L (.int v :: S) h := exb (F := fun v => .int v :: S) (G := fun _ => h) rfl
set_option maxRecDepth 100000 in
theorem L_law_918 {d : Nat} {S : List Value} {h : kH} {a1 a2 a3 : Option Value} {x : Nat} : ex d mL_law 918 [some (.ref x), a1, a2, a3] S h = ex d mL_law 919 [some (.ref x), a1, a2, a3] (.ref x :: S) h := exs rfl
set_option maxRecDepth 100000 in
theorem L_law_919 {d : Nat} {S : List Value} {h : kH} {a0 a1 a2 : Option Value} {x : Int32} : ex d mL_law 919 [a0, a1, a2, some (.int x)] S h = ex d mL_law 920 [a0, a1, a2, some (.int x)] (.int x :: S) h := exs rfl
set_option maxRecDepth 100000 in
theorem L_law_920 {d : Nat} {L : kL} {S : List Value} {h : kH} : ex d mL_law 920 L S h = ex d mL_law 921 L (.int 3 :: S) h := exs rfl
set_option maxRecDepth 100000 in
theorem L_law_921 {d : Nat} {L : kL} {S : List Value} {h : kH} {x y : Int32} : ex d mL_law 921 L (.int y :: .int x :: S) h = ex d mL_law 922 L (.int (x + y) :: S) h := exs rfl
set_option maxRecDepth 100000 in
theorem L_law_922 {d : Nat} {L : kL} {S : List Value} {h : kH} {q : Nat} {i : Int32} : ex d mL_law 922 L (.int i :: .ref q :: S) h = (kil h q i).bind fun v => ex d mL_law 923 L (.int v :: S) h := exb (F := fun v => .int v :: S) (G := fun _ => h) rfl
set_option maxRecDepth 100000 in
theorem L_law_923 {d : Nat} {L : kL} {h : kH} {v0 : Int32} {v1 : Int32} {v2 : Int32} {r0 : Int32} {q : Nat} : ex d mL_law 923 L [.int v2, .int v1, .int v0, .ref q, .int r0] h = if kis h 13 q = true then (rn d mX12_both [.ref q, .int v0, .int v1, .int v2] h).bind fun r => ex d mL_law 926 L (r.1.toList ++ [.int r0]) r.2 else none := exv rfl (Nat.le_of_ble_eq_true rfl)
set_option maxRecDepth 100000 in
theorem L_law_926 {d : Nat} {L : kL} {S : List Value} {h : kH} {x y : Int32} : ex d mL_law 926 L (.int y :: .int x :: S) h = if x = y then ex d mL_law 1506 L S h else ex d mL_law 929 L S h := exc rfl
set_option maxRecDepth 100000 in
theorem L_law_929 {d : Nat} {L : kL} {S : List Value} {h : kH} : ex d mL_law 929 L S h = ex d mL_law 930 L (.int 0 :: S) h := exs rfl
set_option maxRecDepth 100000 in
theorem L_law_930_0 {d : Nat} {L : kL} {h : kH} : ex d mL_law 930 L [.int 0] h = some (some (.int 0), h) := exr rfl
set_option maxRecDepth 100000 in
theorem L_law_930_1 {d : Nat} {L : kL} {h : kH} : ex d mL_law 930 L [.int 1] h = some (some (.int 1), h) := exr rfl
set_option maxRecDepth 100000 in
theorem L_law_930 {d : Nat} {L : kL} {h : kH} {v : Int32} (hv : v = 0 ∨ v = 1) : ex d mL_law 930 L [.int v] h = some (some (.int v), h) := by rcases hv with rfl | rfl <;> exact exr rfl
set_option maxRecDepth 100000 in
theorem L_law_931 {d : Nat} {S : List Value} {h : kH} {a0 a2 a3 : Option Value} {x : Nat} : ex d mL_law 931 [a0, some (.ref x), a2, a3] S h = ex d mL_law 932 [a0, some (.ref x), a2, a3] (.ref x :: S) h := exs rfl
set_option maxRecDepth 100000 in
theorem L_law_932 {d : Nat} {S : List Value} {h : kH} {a1 a2 a3 : Option Value} {x : Nat} : ex d mL_law 932 [some (.ref x), a1, a2, a3] S h = ex d mL_law 933 [some (.ref x), a1, a2, a3] (.ref x :: S) h := exs rfl
set_option maxRecDepth 100000 in
theorem L_law_933 {d : Nat} {S : List Value} {h : kH} {a0 a1 a2 : Option Value} {x : Int32} : ex d mL_law 933 [a0, a1, a2, some (.int x)] S h = ex d mL_law 934 [a0, a1, a2, some (.int x)] (.int x :: S) h := exs rfl
set_option maxRecDepth 100000 in
theorem L_law_934 {d : Nat} {L : kL} {S : List Value} {h : kH} : ex d mL_law 934 L S h = ex d mL_law 935 L (.int 1 :: S) h := exs rfl
set_option maxRecDepth 100000 in
theorem L_law_935 {d : Nat} {L : kL} {S : List Value} {h : kH} {x y : Int32} : ex d mL_law 935 L (.int y :: .int x :: S) h = ex d mL_law 936 L (.int (x + y) :: S) h := exs rfl
set_option maxRecDepth 100000 in
theorem L_law_936 {d : Nat} {L : kL} {S : List Value} {h : kH} {q : Nat} {i : Int32} : ex d mL_law 936 L (.int i :: .ref q :: S) h = (kil h q i).bind fun v => ex d mL_law 937 L (.int v :: S) h := exb (F := fun v => .int v :: S) (G := fun _ => h) rfl
set_option maxRecDepth 100000 in
theorem L_law_937 {d : Nat} {S : List Value} {h : kH} {a1 a2 a3 : Option Value} {x : Nat} : ex d mL_law 937 [some (.ref x), a1, a2, a3] S h = ex d mL_law 938 [some (.ref x), a1, a2, a3] (.ref x :: S) h := exs rfl
set_option maxRecDepth 100000 in
theorem L_law_938 {d : Nat} {S : List Value} {h : kH} {a0 a1 a2 : Option Value} {x : Int32} : ex d mL_law 938 [a0, a1, a2, some (.int x)] S h = ex d mL_law 939 [a0, a1, a2, some (.int x)] (.int x :: S) h := exs rfl
set_option maxRecDepth 100000 in
theorem L_law_939 {d : Nat} {L : kL} {S : List Value} {h : kH} : ex d mL_law 939 L S h = ex d mL_law 940 L (.int 2 :: S) h := exs rfl
set_option maxRecDepth 100000 in
theorem L_law_940 {d : Nat} {L : kL} {S : List Value} {h : kH} {x y : Int32} : ex d mL_law 940 L (.int y :: .int x :: S) h = ex d mL_law 941 L (.int (x + y) :: S) h := exs rfl
set_option maxRecDepth 100000 in
theorem L_law_941 {d : Nat} {L : kL} {S : List Value} {h : kH} {q : Nat} {i : Int32} : ex d mL_law 941 L (.int i :: .ref q :: S) h = (kil h q i).bind fun v => ex d mL_law 942 L (.int v :: S) h := exb (F := fun v => .int v :: S) (G := fun _ => h) rfl
set_option maxRecDepth 100000 in
theorem L_law_942 {d : Nat} {S : List Value} {h : kH} {a1 a2 a3 : Option Value} {x : Nat} : ex d mL_law 942 [some (.ref x), a1, a2, a3] S h = ex d mL_law 943 [some (.ref x), a1, a2, a3] (.ref x :: S) h := exs rfl
set_option maxRecDepth 100000 in
theorem L_law_943 {d : Nat} {S : List Value} {h : kH} {a0 a1 a2 : Option Value} {x : Int32} : ex d mL_law 943 [a0, a1, a2, some (.int x)] S h = ex d mL_law 944 [a0, a1, a2, some (.int x)] (.int x :: S) h := exs rfl
set_option maxRecDepth 100000 in
theorem L_law_944 {d : Nat} {L : kL} {S : List Value} {h : kH} : ex d mL_law 944 L S h = ex d mL_law 945 L (.int 3 :: S) h := exs rfl
set_option maxRecDepth 100000 in
theorem L_law_945 {d : Nat} {L : kL} {S : List Value} {h : kH} {x y : Int32} : ex d mL_law 945 L (.int y :: .int x :: S) h = ex d mL_law 946 L (.int (x + y) :: S) h := exs rfl
set_option maxRecDepth 100000 in
theorem L_law_946 {d : Nat} {L : kL} {S : List Value} {h : kH} {q : Nat} {i : Int32} : ex d mL_law 946 L (.int i :: .ref q :: S) h = (kil h q i).bind fun v => ex d mL_law 947 L (.int v :: S) h := exb (F := fun v => .int v :: S) (G := fun _ => h) rfl
set_option maxRecDepth 100000 in
theorem L_law_947 {d : Nat} {S : List Value} {h : kH} {a1 a2 a3 : Option Value} {x : Nat} : ex d mL_law 947 [some (.ref x), a1, a2, a3] S h = ex d mL_law 948 [some (.ref x), a1, a2, a3] (.ref x :: S) h := exs rfl
set_option maxRecDepth 100000 in
theorem L_law_948 {d : Nat} {S : List Value} {h : kH} {a0 a1 a2 : Option Value} {x : Int32} : ex d mL_law 948 [a0, a1, a2, some (.int x)] S h = ex d mL_law 949 [a0, a1, a2, some (.int x)] (.int x :: S) h := exs rfl
set_option maxRecDepth 100000 in
theorem L_law_949 {d : Nat} {L : kL} {S : List Value} {h : kH} : ex d mL_law 949 L S h = ex d mL_law 950 L (.int 4 :: S) h := exs rfl
set_option maxRecDepth 100000 in
theorem L_law_950 {d : Nat} {L : kL} {S : List Value} {h : kH} {x y : Int32} : ex d mL_law 950 L (.int y :: .int x :: S) h = ex d mL_law 951 L (.int (x + y) :: S) h := exs rfl
set_option maxRecDepth 100000 in
theorem L_law_951 {d : Nat} {L : kL} {S : List Value} {h : kH} {q : Nat} {i : Int32} : ex d mL_law 951 L (.int i :: .ref q :: S) h = (kil h q i).bind fun v => ex d mL_law 952 L (.int v :: S) h := exb (F := fun v => .int v :: S) (G := fun _ => h) rfl
set_option maxRecDepth 100000 in
theorem L_law_952 {d : Nat} {L : kL} {h : kH} {v0 : Int32} {v1 : Int32} {v2 : Int32} {v3 : Int32} {q : Nat} : ex d mL_law 952 L [.int v3, .int v2, .int v1, .int v0, .ref q] h = if kis h 12 q = true then (rn d mX11_window [.ref q, .int v0, .int v1, .int v2, .int v3] h).bind fun r => ex d mL_law 955 L (r.1.toList ++ []) r.2 else none := exv rfl (Nat.le_of_ble_eq_true rfl)
set_option maxRecDepth 100000 in
theorem L_law_955 {d : Nat} {S : List Value} {h : kH} {a0 a1 a3 : Option Value} {x : Nat} : ex d mL_law 955 [a0, a1, some (.ref x), a3] S h = ex d mL_law 956 [a0, a1, some (.ref x), a3] (.ref x :: S) h := exs rfl
set_option maxRecDepth 100000 in
theorem L_law_956 {d : Nat} {S : List Value} {h : kH} {a1 a2 a3 : Option Value} {x : Nat} : ex d mL_law 956 [some (.ref x), a1, a2, a3] S h = ex d mL_law 957 [some (.ref x), a1, a2, a3] (.ref x :: S) h := exs rfl
set_option maxRecDepth 100000 in
theorem L_law_957 {d : Nat} {S : List Value} {h : kH} {a0 a1 a2 : Option Value} {x : Int32} : ex d mL_law 957 [a0, a1, a2, some (.int x)] S h = ex d mL_law 958 [a0, a1, a2, some (.int x)] (.int x :: S) h := exs rfl
set_option maxRecDepth 100000 in
theorem L_law_958 {d : Nat} {L : kL} {S : List Value} {h : kH} : ex d mL_law 958 L S h = ex d mL_law 959 L (.int 1 :: S) h := exs rfl
set_option maxRecDepth 100000 in
theorem L_law_959 {d : Nat} {L : kL} {S : List Value} {h : kH} {x y : Int32} : ex d mL_law 959 L (.int y :: .int x :: S) h = ex d mL_law 960 L (.int (x + y) :: S) h := exs rfl
set_option maxRecDepth 100000 in
theorem L_law_960 {d : Nat} {L : kL} {S : List Value} {h : kH} {q : Nat} {i : Int32} : ex d mL_law 960 L (.int i :: .ref q :: S) h = (kil h q i).bind fun v => ex d mL_law 961 L (.int v :: S) h := exb (F := fun v => .int v :: S) (G := fun _ => h) rfl
set_option maxRecDepth 100000 in
theorem L_law_961 {d : Nat} {S : List Value} {h : kH} {a1 a2 a3 : Option Value} {x : Nat} : ex d mL_law 961 [some (.ref x), a1, a2, a3] S h = ex d mL_law 962 [some (.ref x), a1, a2, a3] (.ref x :: S) h := exs rfl
set_option maxRecDepth 100000 in
theorem L_law_962 {d : Nat} {S : List Value} {h : kH} {a0 a1 a2 : Option Value} {x : Int32} : ex d mL_law 962 [a0, a1, a2, some (.int x)] S h = ex d mL_law 963 [a0, a1, a2, some (.int x)] (.int x :: S) h := exs rfl
set_option maxRecDepth 100000 in
theorem L_law_963 {d : Nat} {L : kL} {S : List Value} {h : kH} : ex d mL_law 963 L S h = ex d mL_law 964 L (.int 2 :: S) h := exs rfl
set_option maxRecDepth 100000 in
theorem L_law_964 {d : Nat} {L : kL} {S : List Value} {h : kH} {x y : Int32} : ex d mL_law 964 L (.int y :: .int x :: S) h = ex d mL_law 965 L (.int (x + y) :: S) h := exs rfl
set_option maxRecDepth 100000 in
theorem L_law_965 {d : Nat} {L : kL} {S : List Value} {h : kH} {q : Nat} {i : Int32} : ex d mL_law 965 L (.int i :: .ref q :: S) h = (kil h q i).bind fun v => ex d mL_law 966 L (.int v :: S) h := exb (F := fun v => .int v :: S) (G := fun _ => h) rfl
set_option maxRecDepth 100000 in
theorem L_law_966 {d : Nat} {S : List Value} {h : kH} {a1 a2 a3 : Option Value} {x : Nat} : ex d mL_law 966 [some (.ref x), a1, a2, a3] S h = ex d mL_law 967 [some (.ref x), a1, a2, a3] (.ref x :: S) h := exs rfl
set_option maxRecDepth 100000 in
theorem L_law_967 {d : Nat} {S : List Value} {h : kH} {a0 a1 a2 : Option Value} {x : Int32} : ex d mL_law 967 [a0, a1, a2, some (.int x)] S h = ex d mL_law 968 [a0, a1, a2, some (.int x)] (.int x :: S) h := exs rfl
set_option maxRecDepth 100000 in
theorem L_law_968 {d : Nat} {L : kL} {S : List Value} {h : kH} : ex d mL_law 968 L S h = ex d mL_law 969 L (.int 3 :: S) h := exs rfl
set_option maxRecDepth 100000 in
theorem L_law_969 {d : Nat} {L : kL} {S : List Value} {h : kH} {x y : Int32} : ex d mL_law 969 L (.int y :: .int x :: S) h = ex d mL_law 970 L (.int (x + y) :: S) h := exs rfl
set_option maxRecDepth 100000 in
theorem L_law_970 {d : Nat} {L : kL} {S : List Value} {h : kH} {q : Nat} {i : Int32} : ex d mL_law 970 L (.int i :: .ref q :: S) h = (kil h q i).bind fun v => ex d mL_law 971 L (.int v :: S) h := exb (F := fun v => .int v :: S) (G := fun _ => h) rfl
set_option maxRecDepth 100000 in
theorem L_law_971 {d : Nat} {S : List Value} {h : kH} {a1 a2 a3 : Option Value} {x : Nat} : ex d mL_law 971 [some (.ref x), a1, a2, a3] S h = ex d mL_law 972 [some (.ref x), a1, a2, a3] (.ref x :: S) h := exs rfl
set_option maxRecDepth 100000 in
theorem L_law_972 {d : Nat} {S : List Value} {h : kH} {a0 a1 a2 : Option Value} {x : Int32} : ex d mL_law 972 [a0, a1, a2, some (.int x)] S h = ex d mL_law 973 [a0, a1, a2, some (.int x)] (.int x :: S) h := exs rfl
set_option maxRecDepth 100000 in
theorem L_law_973 {d : Nat} {L : kL} {S : List Value} {h : kH} : ex d mL_law 973 L S h = ex d mL_law 974 L (.int 4 :: S) h := exs rfl
set_option maxRecDepth 100000 in
theorem L_law_974 {d : Nat} {L : kL} {S : List Value} {h : kH} {x y : Int32} : ex d mL_law 974 L (.int y :: .int x :: S) h = ex d mL_law 975 L (.int (x + y) :: S) h := exs rfl
set_option maxRecDepth 100000 in
theorem L_law_975 {d : Nat} {L : kL} {S : List Value} {h : kH} {q : Nat} {i : Int32} : ex d mL_law 975 L (.int i :: .ref q :: S) h = (kil h q i).bind fun v => ex d mL_law 976 L (.int v :: S) h := exb (F := fun v => .int v :: S) (G := fun _ => h) rfl
set_option maxRecDepth 100000 in
theorem L_law_976 {d : Nat} {L : kL} {h : kH} {v0 : Int32} {v1 : Int32} {v2 : Int32} {v3 : Int32} {r0 : Int32} {q : Nat} : ex d mL_law 976 L [.int v3, .int v2, .int v1, .int v0, .ref q, .int r0] h = if kis h 13 q = true then (rn d mX12_window [.ref q, .int v0, .int v1, .int v2, .int v3] h).bind fun r => ex d mL_law 979 L (r.1.toList ++ [.int r0]) r.2 else none := exv rfl (Nat.le_of_ble_eq_true rfl)
set_option maxRecDepth 100000 in
theorem L_law_979 {d : Nat} {L : kL} {S : List Value} {h : kH} {x y : Int32} : ex d mL_law 979 L (.int y :: .int x :: S) h = if x = y then ex d mL_law 1506 L S h else ex d mL_law 982 L S h := exc rfl
set_option maxRecDepth 100000 in
theorem L_law_982 {d : Nat} {L : kL} {S : List Value} {h : kH} : ex d mL_law 982 L S h = ex d mL_law 983 L (.int 0 :: S) h := exs rfl
set_option maxRecDepth 100000 in
theorem L_law_983_0 {d : Nat} {L : kL} {h : kH} : ex d mL_law 983 L [.int 0] h = some (some (.int 0), h) := exr rfl
set_option maxRecDepth 100000 in
theorem L_law_983_1 {d : Nat} {L : kL} {h : kH} : ex d mL_law 983 L [.int 1] h = some (some (.int 1), h) := exr rfl
set_option maxRecDepth 100000 in
theorem L_law_983 {d : Nat} {L : kL} {h : kH} {v : Int32} (hv : v = 0 ∨ v = 1) : ex d mL_law 983 L [.int v] h = some (some (.int v), h) := by rcases hv with rfl | rfl <;> exact exr rfl
set_option maxRecDepth 100000 in
theorem L_law_984 {d : Nat} {S : List Value} {h : kH} {a0 a2 a3 : Option Value} {x : Nat} : ex d mL_law 984 [a0, some (.ref x), a2, a3] S h = ex d mL_law 985 [a0, some (.ref x), a2, a3] (.ref x :: S) h := exs rfl
set_option maxRecDepth 100000 in
theorem L_law_985 {d : Nat} {S : List Value} {h : kH} {a1 a2 a3 : Option Value} {x : Nat} : ex d mL_law 985 [some (.ref x), a1, a2, a3] S h = ex d mL_law 986 [some (.ref x), a1, a2, a3] (.ref x :: S) h := exs rfl
set_option maxRecDepth 100000 in
theorem L_law_986 {d : Nat} {S : List Value} {h : kH} {a0 a1 a2 : Option Value} {x : Int32} : ex d mL_law 986 [a0, a1, a2, some (.int x)] S h = ex d mL_law 987 [a0, a1, a2, some (.int x)] (.int x :: S) h := exs rfl
set_option maxRecDepth 100000 in
theorem L_law_987 {d : Nat} {L : kL} {S : List Value} {h : kH} : ex d mL_law 987 L S h = ex d mL_law 988 L (.int 1 :: S) h := exs rfl
set_option maxRecDepth 100000 in
theorem L_law_988 {d : Nat} {L : kL} {S : List Value} {h : kH} {x y : Int32} : ex d mL_law 988 L (.int y :: .int x :: S) h = ex d mL_law 989 L (.int (x + y) :: S) h := exs rfl
set_option maxRecDepth 100000 in
theorem L_law_989 {d : Nat} {L : kL} {S : List Value} {h : kH} {q : Nat} {i : Int32} : ex d mL_law 989 L (.int i :: .ref q :: S) h = (kil h q i).bind fun v => ex d mL_law 990 L (.int v :: S) h := exb (F := fun v => .int v :: S) (G := fun _ => h) rfl
set_option maxRecDepth 100000 in
theorem L_law_990 {d : Nat} {S : List Value} {h : kH} {a1 a2 a3 : Option Value} {x : Nat} : ex d mL_law 990 [some (.ref x), a1, a2, a3] S h = ex d mL_law 991 [some (.ref x), a1, a2, a3] (.ref x :: S) h := exs rfl
set_option maxRecDepth 100000 in
theorem L_law_991 {d : Nat} {S : List Value} {h : kH} {a0 a1 a2 : Option Value} {x : Int32} : ex d mL_law 991 [a0, a1, a2, some (.int x)] S h = ex d mL_law 992 [a0, a1, a2, some (.int x)] (.int x :: S) h := exs rfl
set_option maxRecDepth 100000 in
theorem L_law_992 {d : Nat} {L : kL} {S : List Value} {h : kH} : ex d mL_law 992 L S h = ex d mL_law 993 L (.int 2 :: S) h := exs rfl
set_option maxRecDepth 100000 in
theorem L_law_993 {d : Nat} {L : kL} {S : List Value} {h : kH} {x y : Int32} : ex d mL_law 993 L (.int y :: .int x :: S) h = ex d mL_law 994 L (.int (x + y) :: S) h := exs rfl
set_option maxRecDepth 100000 in
theorem L_law_994 {d : Nat} {L : kL} {S : List Value} {h : kH} {q : Nat} {i : Int32} : ex d mL_law 994 L (.int i :: .ref q :: S) h = (kil h q i).bind fun v => ex d mL_law 995 L (.int v :: S) h := exb (F := fun v => .int v :: S) (G := fun _ => h) rfl
set_option maxRecDepth 100000 in
theorem L_law_995 {d : Nat} {L : kL} {h : kH} {v0 : Int32} {v1 : Int32} {q : Nat} : ex d mL_law 995 L [.int v1, .int v0, .ref q] h = if kis h 12 q = true then (rn d mX11_report [.ref q, .int v0, .int v1] h).bind fun r => ex d mL_law 998 L (r.1.toList ++ []) r.2 else none := exv rfl (Nat.le_of_ble_eq_true rfl)
set_option maxRecDepth 100000 in
theorem L_law_998 {d : Nat} {S : List Value} {h : kH} {a0 a1 a3 : Option Value} {x : Nat} : ex d mL_law 998 [a0, a1, some (.ref x), a3] S h = ex d mL_law 999 [a0, a1, some (.ref x), a3] (.ref x :: S) h := exs rfl
set_option maxRecDepth 100000 in
theorem L_law_999 {d : Nat} {S : List Value} {h : kH} {a1 a2 a3 : Option Value} {x : Nat} : ex d mL_law 999 [some (.ref x), a1, a2, a3] S h = ex d mL_law 1000 [some (.ref x), a1, a2, a3] (.ref x :: S) h := exs rfl
set_option maxRecDepth 100000 in
theorem L_law_1000 {d : Nat} {S : List Value} {h : kH} {a0 a1 a2 : Option Value} {x : Int32} : ex d mL_law 1000 [a0, a1, a2, some (.int x)] S h = ex d mL_law 1001 [a0, a1, a2, some (.int x)] (.int x :: S) h := exs rfl
set_option maxRecDepth 100000 in
theorem L_law_1001 {d : Nat} {L : kL} {S : List Value} {h : kH} : ex d mL_law 1001 L S h = ex d mL_law 1002 L (.int 1 :: S) h := exs rfl
set_option maxRecDepth 100000 in
theorem L_law_1002 {d : Nat} {L : kL} {S : List Value} {h : kH} {x y : Int32} : ex d mL_law 1002 L (.int y :: .int x :: S) h = ex d mL_law 1003 L (.int (x + y) :: S) h := exs rfl
set_option maxRecDepth 100000 in
theorem L_law_1003 {d : Nat} {L : kL} {S : List Value} {h : kH} {q : Nat} {i : Int32} : ex d mL_law 1003 L (.int i :: .ref q :: S) h = (kil h q i).bind fun v => ex d mL_law 1004 L (.int v :: S) h := exb (F := fun v => .int v :: S) (G := fun _ => h) rfl
set_option maxRecDepth 100000 in
theorem L_law_1004 {d : Nat} {S : List Value} {h : kH} {a1 a2 a3 : Option Value} {x : Nat} : ex d mL_law 1004 [some (.ref x), a1, a2, a3] S h = ex d mL_law 1005 [some (.ref x), a1, a2, a3] (.ref x :: S) h := exs rfl
set_option maxRecDepth 100000 in
theorem L_law_1005 {d : Nat} {S : List Value} {h : kH} {a0 a1 a2 : Option Value} {x : Int32} : ex d mL_law 1005 [a0, a1, a2, some (.int x)] S h = ex d mL_law 1006 [a0, a1, a2, some (.int x)] (.int x :: S) h := exs rfl
set_option maxRecDepth 100000 in
theorem L_law_1006 {d : Nat} {L : kL} {S : List Value} {h : kH} : ex d mL_law 1006 L S h = ex d mL_law 1007 L (.int 2 :: S) h := exs rfl
set_option maxRecDepth 100000 in
theorem L_law_1007 {d : Nat} {L : kL} {S : List Value} {h : kH} {x y : Int32} : ex d mL_law 1007 L (.int y :: .int x :: S) h = ex d mL_law 1008 L (.int (x + y) :: S) h := exs rfl
set_option maxRecDepth 100000 in
theorem L_law_1008 {d : Nat} {L : kL} {S : List Value} {h : kH} {q : Nat} {i : Int32} : ex d mL_law 1008 L (.int i :: .ref q :: S) h = (kil h q i).bind fun v => ex d mL_law 1009 L (.int v :: S) h := exb (F := fun v => .int v :: S) (G := fun _ => h) rfl
set_option maxRecDepth 100000 in
theorem L_law_1009 {d : Nat} {L : kL} {h : kH} {v0 : Int32} {v1 : Int32} {r0 : Int32} {q : Nat} : ex d mL_law 1009 L [.int v1, .int v0, .ref q, .int r0] h = if kis h 13 q = true then (rn d mX12_report [.ref q, .int v0, .int v1] h).bind fun r => ex d mL_law 1012 L (r.1.toList ++ [.int r0]) r.2 else none := exv rfl (Nat.le_of_ble_eq_true rfl)
set_option maxRecDepth 100000 in
theorem L_law_1012 {d : Nat} {L : kL} {S : List Value} {h : kH} {x y : Int32} : ex d mL_law 1012 L (.int y :: .int x :: S) h = if x = y then ex d mL_law 1506 L S h else ex d mL_law 1015 L S h := exc rfl
set_option maxRecDepth 100000 in
theorem L_law_1015 {d : Nat} {L : kL} {S : List Value} {h : kH} : ex d mL_law 1015 L S h = ex d mL_law 1016 L (.int 0 :: S) h := exs rfl
set_option maxRecDepth 100000 in
theorem L_law_1016_0 {d : Nat} {L : kL} {h : kH} : ex d mL_law 1016 L [.int 0] h = some (some (.int 0), h) := exr rfl
set_option maxRecDepth 100000 in
theorem L_law_1016_1 {d : Nat} {L : kL} {h : kH} : ex d mL_law 1016 L [.int 1] h = some (some (.int 1), h) := exr rfl
set_option maxRecDepth 100000 in
theorem L_law_1016 {d : Nat} {L : kL} {h : kH} {v : Int32} (hv : v = 0 ∨ v = 1) : ex d mL_law 1016 L [.int v] h = some (some (.int v), h) := by rcases hv with rfl | rfl <;> exact exr rfl
set_option maxRecDepth 100000 in
theorem L_law_1017 {d : Nat} {S : List Value} {h : kH} {a0 a2 a3 : Option Value} {x : Nat} : ex d mL_law 1017 [a0, some (.ref x), a2, a3] S h = ex d mL_law 1018 [a0, some (.ref x), a2, a3] (.ref x :: S) h := exs rfl
set_option maxRecDepth 100000 in
theorem L_law_1018 {d : Nat} {S : List Value} {h : kH} {a1 a2 a3 : Option Value} {x : Nat} : ex d mL_law 1018 [some (.ref x), a1, a2, a3] S h = ex d mL_law 1019 [some (.ref x), a1, a2, a3] (.ref x :: S) h := exs rfl
set_option maxRecDepth 100000 in
theorem L_law_1019 {d : Nat} {S : List Value} {h : kH} {a0 a1 a2 : Option Value} {x : Int32} : ex d mL_law 1019 [a0, a1, a2, some (.int x)] S h = ex d mL_law 1020 [a0, a1, a2, some (.int x)] (.int x :: S) h := exs rfl
set_option maxRecDepth 100000 in
theorem L_law_1020 {d : Nat} {L : kL} {S : List Value} {h : kH} : ex d mL_law 1020 L S h = ex d mL_law 1021 L (.int 1 :: S) h := exs rfl
set_option maxRecDepth 100000 in
theorem L_law_1021 {d : Nat} {L : kL} {S : List Value} {h : kH} {x y : Int32} : ex d mL_law 1021 L (.int y :: .int x :: S) h = ex d mL_law 1022 L (.int (x + y) :: S) h := exs rfl
set_option maxRecDepth 100000 in
theorem L_law_1022 {d : Nat} {L : kL} {S : List Value} {h : kH} {q : Nat} {i : Int32} : ex d mL_law 1022 L (.int i :: .ref q :: S) h = (kil h q i).bind fun v => ex d mL_law 1023 L (.int v :: S) h := exb (F := fun v => .int v :: S) (G := fun _ => h) rfl
set_option maxRecDepth 100000 in
theorem L_law_1023 {d : Nat} {S : List Value} {h : kH} {a1 a2 a3 : Option Value} {x : Nat} : ex d mL_law 1023 [some (.ref x), a1, a2, a3] S h = ex d mL_law 1024 [some (.ref x), a1, a2, a3] (.ref x :: S) h := exs rfl
set_option maxRecDepth 100000 in
theorem L_law_1024 {d : Nat} {S : List Value} {h : kH} {a0 a1 a2 : Option Value} {x : Int32} : ex d mL_law 1024 [a0, a1, a2, some (.int x)] S h = ex d mL_law 1025 [a0, a1, a2, some (.int x)] (.int x :: S) h := exs rfl
set_option maxRecDepth 100000 in
theorem L_law_1025 {d : Nat} {L : kL} {S : List Value} {h : kH} : ex d mL_law 1025 L S h = ex d mL_law 1026 L (.int 2 :: S) h := exs rfl
set_option maxRecDepth 100000 in
theorem L_law_1026 {d : Nat} {L : kL} {S : List Value} {h : kH} {x y : Int32} : ex d mL_law 1026 L (.int y :: .int x :: S) h = ex d mL_law 1027 L (.int (x + y) :: S) h := exs rfl
set_option maxRecDepth 100000 in
theorem L_law_1027 {d : Nat} {L : kL} {S : List Value} {h : kH} {q : Nat} {i : Int32} : ex d mL_law 1027 L (.int i :: .ref q :: S) h = (kil h q i).bind fun v => ex d mL_law 1028 L (.int v :: S) h := exb (F := fun v => .int v :: S) (G := fun _ => h) rfl
set_option maxRecDepth 100000 in
theorem L_law_1028 {d : Nat} {S : List Value} {h : kH} {a1 a2 a3 : Option Value} {x : Nat} : ex d mL_law 1028 [some (.ref x), a1, a2, a3] S h = ex d mL_law 1029 [some (.ref x), a1, a2, a3] (.ref x :: S) h := exs rfl
set_option maxRecDepth 100000 in
theorem L_law_1029 {d : Nat} {S : List Value} {h : kH} {a0 a1 a2 : Option Value} {x : Int32} : ex d mL_law 1029 [a0, a1, a2, some (.int x)] S h = ex d mL_law 1030 [a0, a1, a2, some (.int x)] (.int x :: S) h := exs rfl
set_option maxRecDepth 100000 in
theorem L_law_1030 {d : Nat} {L : kL} {S : List Value} {h : kH} : ex d mL_law 1030 L S h = ex d mL_law 1031 L (.int 3 :: S) h := exs rfl
set_option maxRecDepth 100000 in
theorem L_law_1031 {d : Nat} {L : kL} {S : List Value} {h : kH} {x y : Int32} : ex d mL_law 1031 L (.int y :: .int x :: S) h = ex d mL_law 1032 L (.int (x + y) :: S) h := exs rfl
set_option maxRecDepth 100000 in
theorem L_law_1032 {d : Nat} {L : kL} {S : List Value} {h : kH} {q : Nat} {i : Int32} : ex d mL_law 1032 L (.int i :: .ref q :: S) h = (kil h q i).bind fun v => ex d mL_law 1033 L (.int v :: S) h := exb (F := fun v => .int v :: S) (G := fun _ => h) rfl
set_option maxRecDepth 100000 in
theorem L_law_1033 {d : Nat} {L : kL} {h : kH} {v0 : Int32} {v1 : Int32} {v2 : Int32} {q : Nat} : ex d mL_law 1033 L [.int v2, .int v1, .int v0, .ref q] h = if kis h 12 q = true then (rn d mX11_chain [.ref q, .int v0, .int v1, .int v2] h).bind fun r => ex d mL_law 1036 L (r.1.toList ++ []) r.2 else none := exv rfl (Nat.le_of_ble_eq_true rfl)
set_option maxRecDepth 100000 in
theorem L_law_1036 {d : Nat} {S : List Value} {h : kH} {a0 a1 a3 : Option Value} {x : Nat} : ex d mL_law 1036 [a0, a1, some (.ref x), a3] S h = ex d mL_law 1037 [a0, a1, some (.ref x), a3] (.ref x :: S) h := exs rfl
set_option maxRecDepth 100000 in
theorem L_law_1037 {d : Nat} {S : List Value} {h : kH} {a1 a2 a3 : Option Value} {x : Nat} : ex d mL_law 1037 [some (.ref x), a1, a2, a3] S h = ex d mL_law 1038 [some (.ref x), a1, a2, a3] (.ref x :: S) h := exs rfl
set_option maxRecDepth 100000 in
theorem L_law_1038 {d : Nat} {S : List Value} {h : kH} {a0 a1 a2 : Option Value} {x : Int32} : ex d mL_law 1038 [a0, a1, a2, some (.int x)] S h = ex d mL_law 1039 [a0, a1, a2, some (.int x)] (.int x :: S) h := exs rfl
set_option maxRecDepth 100000 in
theorem L_law_1039 {d : Nat} {L : kL} {S : List Value} {h : kH} : ex d mL_law 1039 L S h = ex d mL_law 1040 L (.int 1 :: S) h := exs rfl
set_option maxRecDepth 100000 in
theorem L_law_1040 {d : Nat} {L : kL} {S : List Value} {h : kH} {x y : Int32} : ex d mL_law 1040 L (.int y :: .int x :: S) h = ex d mL_law 1041 L (.int (x + y) :: S) h := exs rfl
set_option maxRecDepth 100000 in
theorem L_law_1041 {d : Nat} {L : kL} {S : List Value} {h : kH} {q : Nat} {i : Int32} : ex d mL_law 1041 L (.int i :: .ref q :: S) h = (kil h q i).bind fun v => ex d mL_law 1042 L (.int v :: S) h := exb (F := fun v => .int v :: S) (G := fun _ => h) rfl
set_option maxRecDepth 100000 in
theorem L_law_1042 {d : Nat} {S : List Value} {h : kH} {a1 a2 a3 : Option Value} {x : Nat} : ex d mL_law 1042 [some (.ref x), a1, a2, a3] S h = ex d mL_law 1043 [some (.ref x), a1, a2, a3] (.ref x :: S) h := exs rfl
set_option maxRecDepth 100000 in
theorem L_law_1043 {d : Nat} {S : List Value} {h : kH} {a0 a1 a2 : Option Value} {x : Int32} : ex d mL_law 1043 [a0, a1, a2, some (.int x)] S h = ex d mL_law 1044 [a0, a1, a2, some (.int x)] (.int x :: S) h := exs rfl
set_option maxRecDepth 100000 in
theorem L_law_1044 {d : Nat} {L : kL} {S : List Value} {h : kH} : ex d mL_law 1044 L S h = ex d mL_law 1045 L (.int 2 :: S) h := exs rfl
set_option maxRecDepth 100000 in
theorem L_law_1045 {d : Nat} {L : kL} {S : List Value} {h : kH} {x y : Int32} : ex d mL_law 1045 L (.int y :: .int x :: S) h = ex d mL_law 1046 L (.int (x + y) :: S) h := exs rfl
set_option maxRecDepth 100000 in
theorem L_law_1046 {d : Nat} {L : kL} {S : List Value} {h : kH} {q : Nat} {i : Int32} : ex d mL_law 1046 L (.int i :: .ref q :: S) h = (kil h q i).bind fun v => ex d mL_law 1047 L (.int v :: S) h := exb (F := fun v => .int v :: S) (G := fun _ => h) rfl
set_option maxRecDepth 100000 in
theorem L_law_1047 {d : Nat} {S : List Value} {h : kH} {a1 a2 a3 : Option Value} {x : Nat} : ex d mL_law 1047 [some (.ref x), a1, a2, a3] S h = ex d mL_law 1048 [some (.ref x), a1, a2, a3] (.ref x :: S) h := exs rfl
set_option maxRecDepth 100000 in
theorem L_law_1048 {d : Nat} {S : List Value} {h : kH} {a0 a1 a2 : Option Value} {x : Int32} : ex d mL_law 1048 [a0, a1, a2, some (.int x)] S h = ex d mL_law 1049 [a0, a1, a2, some (.int x)] (.int x :: S) h := exs rfl
set_option maxRecDepth 100000 in
theorem L_law_1049 {d : Nat} {L : kL} {S : List Value} {h : kH} : ex d mL_law 1049 L S h = ex d mL_law 1050 L (.int 3 :: S) h := exs rfl
set_option maxRecDepth 100000 in
theorem L_law_1050 {d : Nat} {L : kL} {S : List Value} {h : kH} {x y : Int32} : ex d mL_law 1050 L (.int y :: .int x :: S) h = ex d mL_law 1051 L (.int (x + y) :: S) h := exs rfl
set_option maxRecDepth 100000 in
theorem L_law_1051 {d : Nat} {L : kL} {S : List Value} {h : kH} {q : Nat} {i : Int32} : ex d mL_law 1051 L (.int i :: .ref q :: S) h = (kil h q i).bind fun v => ex d mL_law 1052 L (.int v :: S) h := exb (F := fun v => .int v :: S) (G := fun _ => h) rfl
set_option maxRecDepth 100000 in
theorem L_law_1052 {d : Nat} {L : kL} {h : kH} {v0 : Int32} {v1 : Int32} {v2 : Int32} {r0 : Int32} {q : Nat} : ex d mL_law 1052 L [.int v2, .int v1, .int v0, .ref q, .int r0] h = if kis h 13 q = true then (rn d mX12_chain [.ref q, .int v0, .int v1, .int v2] h).bind fun r => ex d mL_law 1055 L (r.1.toList ++ [.int r0]) r.2 else none := exv rfl (Nat.le_of_ble_eq_true rfl)
set_option maxRecDepth 100000 in
theorem L_law_1055 {d : Nat} {L : kL} {S : List Value} {h : kH} {x y : Int32} : ex d mL_law 1055 L (.int y :: .int x :: S) h = if x = y then ex d mL_law 1506 L S h else ex d mL_law 1058 L S h := exc rfl
set_option maxRecDepth 100000 in
theorem L_law_1058 {d : Nat} {L : kL} {S : List Value} {h : kH} : ex d mL_law 1058 L S h = ex d mL_law 1059 L (.int 0 :: S) h := exs rfl
set_option maxRecDepth 100000 in
theorem L_law_1059_0 {d : Nat} {L : kL} {h : kH} : ex d mL_law 1059 L [.int 0] h = some (some (.int 0), h) := exr rfl
set_option maxRecDepth 100000 in
theorem L_law_1059_1 {d : Nat} {L : kL} {h : kH} : ex d mL_law 1059 L [.int 1] h = some (some (.int 1), h) := exr rfl
set_option maxRecDepth 100000 in
theorem L_law_1059 {d : Nat} {L : kL} {h : kH} {v : Int32} (hv : v = 0 ∨ v = 1) : ex d mL_law 1059 L [.int v] h = some (some (.int v), h) := by rcases hv with rfl | rfl <;> exact exr rfl
set_option maxRecDepth 100000 in
theorem L_law_1060 {d : Nat} {S : List Value} {h : kH} {a0 a2 a3 : Option Value} {x : Nat} : ex d mL_law 1060 [a0, some (.ref x), a2, a3] S h = ex d mL_law 1061 [a0, some (.ref x), a2, a3] (.ref x :: S) h := exs rfl
set_option maxRecDepth 100000 in
theorem L_law_1061 {d : Nat} {S : List Value} {h : kH} {a1 a2 a3 : Option Value} {x : Nat} : ex d mL_law 1061 [some (.ref x), a1, a2, a3] S h = ex d mL_law 1062 [some (.ref x), a1, a2, a3] (.ref x :: S) h := exs rfl
set_option maxRecDepth 100000 in
theorem L_law_1062 {d : Nat} {S : List Value} {h : kH} {a0 a1 a2 : Option Value} {x : Int32} : ex d mL_law 1062 [a0, a1, a2, some (.int x)] S h = ex d mL_law 1063 [a0, a1, a2, some (.int x)] (.int x :: S) h := exs rfl
set_option maxRecDepth 100000 in
theorem L_law_1063 {d : Nat} {L : kL} {S : List Value} {h : kH} : ex d mL_law 1063 L S h = ex d mL_law 1064 L (.int 1 :: S) h := exs rfl
set_option maxRecDepth 100000 in
theorem L_law_1064 {d : Nat} {L : kL} {S : List Value} {h : kH} {x y : Int32} : ex d mL_law 1064 L (.int y :: .int x :: S) h = ex d mL_law 1065 L (.int (x + y) :: S) h := exs rfl
set_option maxRecDepth 100000 in
theorem L_law_1065 {d : Nat} {L : kL} {S : List Value} {h : kH} {q : Nat} {i : Int32} : ex d mL_law 1065 L (.int i :: .ref q :: S) h = (kil h q i).bind fun v => ex d mL_law 1066 L (.int v :: S) h := exb (F := fun v => .int v :: S) (G := fun _ => h) rfl
set_option maxRecDepth 100000 in
theorem L_law_1066 {d : Nat} {S : List Value} {h : kH} {a1 a2 a3 : Option Value} {x : Nat} : ex d mL_law 1066 [some (.ref x), a1, a2, a3] S h = ex d mL_law 1067 [some (.ref x), a1, a2, a3] (.ref x :: S) h := exs rfl
set_option maxRecDepth 100000 in
theorem L_law_1067 {d : Nat} {S : List Value} {h : kH} {a0 a1 a2 : Option Value} {x : Int32} : ex d mL_law 1067 [a0, a1, a2, some (.int x)] S h = ex d mL_law 1068 [a0, a1, a2, some (.int x)] (.int x :: S) h := exs rfl
set_option maxRecDepth 100000 in
theorem L_law_1068 {d : Nat} {L : kL} {S : List Value} {h : kH} : ex d mL_law 1068 L S h = ex d mL_law 1069 L (.int 2 :: S) h := exs rfl
set_option maxRecDepth 100000 in
theorem L_law_1069 {d : Nat} {L : kL} {S : List Value} {h : kH} {x y : Int32} : ex d mL_law 1069 L (.int y :: .int x :: S) h = ex d mL_law 1070 L (.int (x + y) :: S) h := exs rfl
set_option maxRecDepth 100000 in
theorem L_law_1070 {d : Nat} {L : kL} {S : List Value} {h : kH} {q : Nat} {i : Int32} : ex d mL_law 1070 L (.int i :: .ref q :: S) h = (kil h q i).bind fun v => ex d mL_law 1071 L (.int v :: S) h := exb (F := fun v => .int v :: S) (G := fun _ => h) rfl
set_option maxRecDepth 100000 in
theorem L_law_1071 {d : Nat} {L : kL} {h : kH} {v0 : Int32} {v1 : Int32} {q : Nat} : ex d mL_law 1071 L [.int v1, .int v0, .ref q] h = if kis h 12 q = true then (rn d mX11_longest [.ref q, .int v0, .int v1] h).bind fun r => ex d mL_law 1074 L (r.1.toList ++ []) r.2 else none := exv rfl (Nat.le_of_ble_eq_true rfl)
set_option maxRecDepth 100000 in
theorem L_law_1074 {d : Nat} {S : List Value} {h : kH} {a0 a1 a3 : Option Value} {x : Nat} : ex d mL_law 1074 [a0, a1, some (.ref x), a3] S h = ex d mL_law 1075 [a0, a1, some (.ref x), a3] (.ref x :: S) h := exs rfl
set_option maxRecDepth 100000 in
theorem L_law_1075 {d : Nat} {S : List Value} {h : kH} {a1 a2 a3 : Option Value} {x : Nat} : ex d mL_law 1075 [some (.ref x), a1, a2, a3] S h = ex d mL_law 1076 [some (.ref x), a1, a2, a3] (.ref x :: S) h := exs rfl
set_option maxRecDepth 100000 in
theorem L_law_1076 {d : Nat} {S : List Value} {h : kH} {a0 a1 a2 : Option Value} {x : Int32} : ex d mL_law 1076 [a0, a1, a2, some (.int x)] S h = ex d mL_law 1077 [a0, a1, a2, some (.int x)] (.int x :: S) h := exs rfl
set_option maxRecDepth 100000 in
theorem L_law_1077 {d : Nat} {L : kL} {S : List Value} {h : kH} : ex d mL_law 1077 L S h = ex d mL_law 1078 L (.int 1 :: S) h := exs rfl
set_option maxRecDepth 100000 in
theorem L_law_1078 {d : Nat} {L : kL} {S : List Value} {h : kH} {x y : Int32} : ex d mL_law 1078 L (.int y :: .int x :: S) h = ex d mL_law 1079 L (.int (x + y) :: S) h := exs rfl
set_option maxRecDepth 100000 in
theorem L_law_1079 {d : Nat} {L : kL} {S : List Value} {h : kH} {q : Nat} {i : Int32} : ex d mL_law 1079 L (.int i :: .ref q :: S) h = (kil h q i).bind fun v => ex d mL_law 1080 L (.int v :: S) h := exb (F := fun v => .int v :: S) (G := fun _ => h) rfl
set_option maxRecDepth 100000 in
theorem L_law_1080 {d : Nat} {S : List Value} {h : kH} {a1 a2 a3 : Option Value} {x : Nat} : ex d mL_law 1080 [some (.ref x), a1, a2, a3] S h = ex d mL_law 1081 [some (.ref x), a1, a2, a3] (.ref x :: S) h := exs rfl
set_option maxRecDepth 100000 in
theorem L_law_1081 {d : Nat} {S : List Value} {h : kH} {a0 a1 a2 : Option Value} {x : Int32} : ex d mL_law 1081 [a0, a1, a2, some (.int x)] S h = ex d mL_law 1082 [a0, a1, a2, some (.int x)] (.int x :: S) h := exs rfl
set_option maxRecDepth 100000 in
theorem L_law_1082 {d : Nat} {L : kL} {S : List Value} {h : kH} : ex d mL_law 1082 L S h = ex d mL_law 1083 L (.int 2 :: S) h := exs rfl
set_option maxRecDepth 100000 in
theorem L_law_1083 {d : Nat} {L : kL} {S : List Value} {h : kH} {x y : Int32} : ex d mL_law 1083 L (.int y :: .int x :: S) h = ex d mL_law 1084 L (.int (x + y) :: S) h := exs rfl
set_option maxRecDepth 100000 in
theorem L_law_1084 {d : Nat} {L : kL} {S : List Value} {h : kH} {q : Nat} {i : Int32} : ex d mL_law 1084 L (.int i :: .ref q :: S) h = (kil h q i).bind fun v => ex d mL_law 1085 L (.int v :: S) h := exb (F := fun v => .int v :: S) (G := fun _ => h) rfl
set_option maxRecDepth 100000 in
theorem L_law_1085 {d : Nat} {L : kL} {h : kH} {v0 : Int32} {v1 : Int32} {r0 : Int32} {q : Nat} : ex d mL_law 1085 L [.int v1, .int v0, .ref q, .int r0] h = if kis h 13 q = true then (rn d mX12_longest [.ref q, .int v0, .int v1] h).bind fun r => ex d mL_law 1088 L (r.1.toList ++ [.int r0]) r.2 else none := exv rfl (Nat.le_of_ble_eq_true rfl)
set_option maxRecDepth 100000 in
theorem L_law_1088 {d : Nat} {L : kL} {S : List Value} {h : kH} {x y : Int32} : ex d mL_law 1088 L (.int y :: .int x :: S) h = if x = y then ex d mL_law 1506 L S h else ex d mL_law 1091 L S h := exc rfl
set_option maxRecDepth 100000 in
theorem L_law_1091 {d : Nat} {L : kL} {S : List Value} {h : kH} : ex d mL_law 1091 L S h = ex d mL_law 1092 L (.int 0 :: S) h := exs rfl
set_option maxRecDepth 100000 in
theorem L_law_1092_0 {d : Nat} {L : kL} {h : kH} : ex d mL_law 1092 L [.int 0] h = some (some (.int 0), h) := exr rfl
set_option maxRecDepth 100000 in
theorem L_law_1092_1 {d : Nat} {L : kL} {h : kH} : ex d mL_law 1092 L [.int 1] h = some (some (.int 1), h) := exr rfl
set_option maxRecDepth 100000 in
theorem L_law_1092 {d : Nat} {L : kL} {h : kH} {v : Int32} (hv : v = 0 ∨ v = 1) : ex d mL_law 1092 L [.int v] h = some (some (.int v), h) := by rcases hv with rfl | rfl <;> exact exr rfl
set_option maxRecDepth 100000 in
theorem L_law_1093 {d : Nat} {S : List Value} {h : kH} {a0 a2 a3 : Option Value} {x : Nat} : ex d mL_law 1093 [a0, some (.ref x), a2, a3] S h = ex d mL_law 1094 [a0, some (.ref x), a2, a3] (.ref x :: S) h := exs rfl
set_option maxRecDepth 100000 in
theorem L_law_1094 {d : Nat} {S : List Value} {h : kH} {a1 a2 a3 : Option Value} {x : Nat} : ex d mL_law 1094 [some (.ref x), a1, a2, a3] S h = ex d mL_law 1095 [some (.ref x), a1, a2, a3] (.ref x :: S) h := exs rfl
set_option maxRecDepth 100000 in
theorem L_law_1095 {d : Nat} {S : List Value} {h : kH} {a0 a1 a2 : Option Value} {x : Int32} : ex d mL_law 1095 [a0, a1, a2, some (.int x)] S h = ex d mL_law 1096 [a0, a1, a2, some (.int x)] (.int x :: S) h := exs rfl
set_option maxRecDepth 100000 in
theorem L_law_1096 {d : Nat} {L : kL} {S : List Value} {h : kH} : ex d mL_law 1096 L S h = ex d mL_law 1097 L (.int 1 :: S) h := exs rfl
set_option maxRecDepth 100000 in
theorem L_law_1097 {d : Nat} {L : kL} {S : List Value} {h : kH} {x y : Int32} : ex d mL_law 1097 L (.int y :: .int x :: S) h = ex d mL_law 1098 L (.int (x + y) :: S) h := exs rfl
set_option maxRecDepth 100000 in
theorem L_law_1098 {d : Nat} {L : kL} {S : List Value} {h : kH} {q : Nat} {i : Int32} : ex d mL_law 1098 L (.int i :: .ref q :: S) h = (kil h q i).bind fun v => ex d mL_law 1099 L (.int v :: S) h := exb (F := fun v => .int v :: S) (G := fun _ => h) rfl
set_option maxRecDepth 100000 in
theorem L_law_1099 {d : Nat} {S : List Value} {h : kH} {a1 a2 a3 : Option Value} {x : Nat} : ex d mL_law 1099 [some (.ref x), a1, a2, a3] S h = ex d mL_law 1100 [some (.ref x), a1, a2, a3] (.ref x :: S) h := exs rfl
set_option maxRecDepth 100000 in
theorem L_law_1100 {d : Nat} {S : List Value} {h : kH} {a0 a1 a2 : Option Value} {x : Int32} : ex d mL_law 1100 [a0, a1, a2, some (.int x)] S h = ex d mL_law 1101 [a0, a1, a2, some (.int x)] (.int x :: S) h := exs rfl
set_option maxRecDepth 100000 in
theorem L_law_1101 {d : Nat} {L : kL} {S : List Value} {h : kH} : ex d mL_law 1101 L S h = ex d mL_law 1102 L (.int 2 :: S) h := exs rfl
set_option maxRecDepth 100000 in
theorem L_law_1102 {d : Nat} {L : kL} {S : List Value} {h : kH} {x y : Int32} : ex d mL_law 1102 L (.int y :: .int x :: S) h = ex d mL_law 1103 L (.int (x + y) :: S) h := exs rfl
set_option maxRecDepth 100000 in
theorem L_law_1103 {d : Nat} {L : kL} {S : List Value} {h : kH} {q : Nat} {i : Int32} : ex d mL_law 1103 L (.int i :: .ref q :: S) h = (kil h q i).bind fun v => ex d mL_law 1104 L (.int v :: S) h := exb (F := fun v => .int v :: S) (G := fun _ => h) rfl
set_option maxRecDepth 100000 in
theorem L_law_1104 {d : Nat} {S : List Value} {h : kH} {a1 a2 a3 : Option Value} {x : Nat} : ex d mL_law 1104 [some (.ref x), a1, a2, a3] S h = ex d mL_law 1105 [some (.ref x), a1, a2, a3] (.ref x :: S) h := exs rfl
set_option maxRecDepth 100000 in
theorem L_law_1105 {d : Nat} {S : List Value} {h : kH} {a0 a1 a2 : Option Value} {x : Int32} : ex d mL_law 1105 [a0, a1, a2, some (.int x)] S h = ex d mL_law 1106 [a0, a1, a2, some (.int x)] (.int x :: S) h := exs rfl
set_option maxRecDepth 100000 in
theorem L_law_1106 {d : Nat} {L : kL} {S : List Value} {h : kH} : ex d mL_law 1106 L S h = ex d mL_law 1107 L (.int 3 :: S) h := exs rfl
set_option maxRecDepth 100000 in
theorem L_law_1107 {d : Nat} {L : kL} {S : List Value} {h : kH} {x y : Int32} : ex d mL_law 1107 L (.int y :: .int x :: S) h = ex d mL_law 1108 L (.int (x + y) :: S) h := exs rfl
set_option maxRecDepth 100000 in
theorem L_law_1108 {d : Nat} {L : kL} {S : List Value} {h : kH} {q : Nat} {i : Int32} : ex d mL_law 1108 L (.int i :: .ref q :: S) h = (kil h q i).bind fun v => ex d mL_law 1109 L (.int v :: S) h := exb (F := fun v => .int v :: S) (G := fun _ => h) rfl
set_option maxRecDepth 100000 in
theorem L_law_1109 {d : Nat} {L : kL} {h : kH} {v0 : Int32} {v1 : Int32} {v2 : Int32} {q : Nat} : ex d mL_law 1109 L [.int v2, .int v1, .int v0, .ref q] h = if kis h 12 q = true then (rn d mX11_folded [.ref q, .int v0, .int v1, .int v2] h).bind fun r => ex d mL_law 1112 L (r.1.toList ++ []) r.2 else none := exv rfl (Nat.le_of_ble_eq_true rfl)
set_option maxRecDepth 100000 in
theorem L_law_1112 {d : Nat} {S : List Value} {h : kH} {a0 a1 a3 : Option Value} {x : Nat} : ex d mL_law 1112 [a0, a1, some (.ref x), a3] S h = ex d mL_law 1113 [a0, a1, some (.ref x), a3] (.ref x :: S) h := exs rfl
set_option maxRecDepth 100000 in
theorem L_law_1113 {d : Nat} {S : List Value} {h : kH} {a1 a2 a3 : Option Value} {x : Nat} : ex d mL_law 1113 [some (.ref x), a1, a2, a3] S h = ex d mL_law 1114 [some (.ref x), a1, a2, a3] (.ref x :: S) h := exs rfl
set_option maxRecDepth 100000 in
theorem L_law_1114 {d : Nat} {S : List Value} {h : kH} {a0 a1 a2 : Option Value} {x : Int32} : ex d mL_law 1114 [a0, a1, a2, some (.int x)] S h = ex d mL_law 1115 [a0, a1, a2, some (.int x)] (.int x :: S) h := exs rfl
set_option maxRecDepth 100000 in
theorem L_law_1115 {d : Nat} {L : kL} {S : List Value} {h : kH} : ex d mL_law 1115 L S h = ex d mL_law 1116 L (.int 1 :: S) h := exs rfl
set_option maxRecDepth 100000 in
theorem L_law_1116 {d : Nat} {L : kL} {S : List Value} {h : kH} {x y : Int32} : ex d mL_law 1116 L (.int y :: .int x :: S) h = ex d mL_law 1117 L (.int (x + y) :: S) h := exs rfl
set_option maxRecDepth 100000 in
theorem L_law_1117 {d : Nat} {L : kL} {S : List Value} {h : kH} {q : Nat} {i : Int32} : ex d mL_law 1117 L (.int i :: .ref q :: S) h = (kil h q i).bind fun v => ex d mL_law 1118 L (.int v :: S) h := exb (F := fun v => .int v :: S) (G := fun _ => h) rfl
set_option maxRecDepth 100000 in
theorem L_law_1118 {d : Nat} {S : List Value} {h : kH} {a1 a2 a3 : Option Value} {x : Nat} : ex d mL_law 1118 [some (.ref x), a1, a2, a3] S h = ex d mL_law 1119 [some (.ref x), a1, a2, a3] (.ref x :: S) h := exs rfl
set_option maxRecDepth 100000 in
theorem L_law_1119 {d : Nat} {S : List Value} {h : kH} {a0 a1 a2 : Option Value} {x : Int32} : ex d mL_law 1119 [a0, a1, a2, some (.int x)] S h = ex d mL_law 1120 [a0, a1, a2, some (.int x)] (.int x :: S) h := exs rfl
set_option maxRecDepth 100000 in
theorem L_law_1120 {d : Nat} {L : kL} {S : List Value} {h : kH} : ex d mL_law 1120 L S h = ex d mL_law 1121 L (.int 2 :: S) h := exs rfl
set_option maxRecDepth 100000 in
theorem L_law_1121 {d : Nat} {L : kL} {S : List Value} {h : kH} {x y : Int32} : ex d mL_law 1121 L (.int y :: .int x :: S) h = ex d mL_law 1122 L (.int (x + y) :: S) h := exs rfl
set_option maxRecDepth 100000 in
theorem L_law_1122 {d : Nat} {L : kL} {S : List Value} {h : kH} {q : Nat} {i : Int32} : ex d mL_law 1122 L (.int i :: .ref q :: S) h = (kil h q i).bind fun v => ex d mL_law 1123 L (.int v :: S) h := exb (F := fun v => .int v :: S) (G := fun _ => h) rfl
set_option maxRecDepth 100000 in
theorem L_law_1123 {d : Nat} {S : List Value} {h : kH} {a1 a2 a3 : Option Value} {x : Nat} : ex d mL_law 1123 [some (.ref x), a1, a2, a3] S h = ex d mL_law 1124 [some (.ref x), a1, a2, a3] (.ref x :: S) h := exs rfl
set_option maxRecDepth 100000 in
theorem L_law_1124 {d : Nat} {S : List Value} {h : kH} {a0 a1 a2 : Option Value} {x : Int32} : ex d mL_law 1124 [a0, a1, a2, some (.int x)] S h = ex d mL_law 1125 [a0, a1, a2, some (.int x)] (.int x :: S) h := exs rfl
set_option maxRecDepth 100000 in
theorem L_law_1125 {d : Nat} {L : kL} {S : List Value} {h : kH} : ex d mL_law 1125 L S h = ex d mL_law 1126 L (.int 3 :: S) h := exs rfl
set_option maxRecDepth 100000 in
theorem L_law_1126 {d : Nat} {L : kL} {S : List Value} {h : kH} {x y : Int32} : ex d mL_law 1126 L (.int y :: .int x :: S) h = ex d mL_law 1127 L (.int (x + y) :: S) h := exs rfl
set_option maxRecDepth 100000 in
theorem L_law_1127 {d : Nat} {L : kL} {S : List Value} {h : kH} {q : Nat} {i : Int32} : ex d mL_law 1127 L (.int i :: .ref q :: S) h = (kil h q i).bind fun v => ex d mL_law 1128 L (.int v :: S) h := exb (F := fun v => .int v :: S) (G := fun _ => h) rfl
set_option maxRecDepth 100000 in
theorem L_law_1128 {d : Nat} {L : kL} {h : kH} {v0 : Int32} {v1 : Int32} {v2 : Int32} {r0 : Int32} {q : Nat} : ex d mL_law 1128 L [.int v2, .int v1, .int v0, .ref q, .int r0] h = if kis h 13 q = true then (rn d mX12_folded [.ref q, .int v0, .int v1, .int v2] h).bind fun r => ex d mL_law 1131 L (r.1.toList ++ [.int r0]) r.2 else none := exv rfl (Nat.le_of_ble_eq_true rfl)
set_option maxRecDepth 100000 in
theorem L_law_1131 {d : Nat} {L : kL} {S : List Value} {h : kH} {x y : Int32} : ex d mL_law 1131 L (.int y :: .int x :: S) h = if x = y then ex d mL_law 1506 L S h else ex d mL_law 1134 L S h := exc rfl
set_option maxRecDepth 100000 in
theorem L_law_1134 {d : Nat} {L : kL} {S : List Value} {h : kH} : ex d mL_law 1134 L S h = ex d mL_law 1135 L (.int 0 :: S) h := exs rfl
set_option maxRecDepth 100000 in
theorem L_law_1135_0 {d : Nat} {L : kL} {h : kH} : ex d mL_law 1135 L [.int 0] h = some (some (.int 0), h) := exr rfl
set_option maxRecDepth 100000 in
theorem L_law_1135_1 {d : Nat} {L : kL} {h : kH} : ex d mL_law 1135 L [.int 1] h = some (some (.int 1), h) := exr rfl
set_option maxRecDepth 100000 in
theorem L_law_1135 {d : Nat} {L : kL} {h : kH} {v : Int32} (hv : v = 0 ∨ v = 1) : ex d mL_law 1135 L [.int v] h = some (some (.int v), h) := by rcases hv with rfl | rfl <;> exact exr rfl
set_option maxRecDepth 100000 in
theorem L_law_1136 {d : Nat} {S : List Value} {h : kH} {a0 a2 a3 : Option Value} {x : Nat} : ex d mL_law 1136 [a0, some (.ref x), a2, a3] S h = ex d mL_law 1137 [a0, some (.ref x), a2, a3] (.ref x :: S) h := exs rfl
set_option maxRecDepth 100000 in
theorem L_law_1137 {d : Nat} {S : List Value} {h : kH} {a1 a2 a3 : Option Value} {x : Nat} : ex d mL_law 1137 [some (.ref x), a1, a2, a3] S h = ex d mL_law 1138 [some (.ref x), a1, a2, a3] (.ref x :: S) h := exs rfl
set_option maxRecDepth 100000 in
theorem L_law_1138 {d : Nat} {S : List Value} {h : kH} {a0 a1 a2 : Option Value} {x : Int32} : ex d mL_law 1138 [a0, a1, a2, some (.int x)] S h = ex d mL_law 1139 [a0, a1, a2, some (.int x)] (.int x :: S) h := exs rfl
set_option maxRecDepth 100000 in
theorem L_law_1139 {d : Nat} {L : kL} {S : List Value} {h : kH} : ex d mL_law 1139 L S h = ex d mL_law 1140 L (.int 1 :: S) h := exs rfl
set_option maxRecDepth 100000 in
theorem L_law_1140 {d : Nat} {L : kL} {S : List Value} {h : kH} {x y : Int32} : ex d mL_law 1140 L (.int y :: .int x :: S) h = ex d mL_law 1141 L (.int (x + y) :: S) h := exs rfl
set_option maxRecDepth 100000 in
theorem L_law_1141 {d : Nat} {L : kL} {S : List Value} {h : kH} {q : Nat} {i : Int32} : ex d mL_law 1141 L (.int i :: .ref q :: S) h = (kil h q i).bind fun v => ex d mL_law 1142 L (.int v :: S) h := exb (F := fun v => .int v :: S) (G := fun _ => h) rfl
set_option maxRecDepth 100000 in
theorem L_law_1142 {d : Nat} {L : kL} {h : kH} {v0 : Int32} {q : Nat} : ex d mL_law 1142 L [.int v0, .ref q] h = if kis h 12 q = true then (rn d mX11_ranked [.ref q, .int v0] h).bind fun r => ex d mL_law 1145 L (r.1.toList ++ []) r.2 else none := exv rfl (Nat.le_of_ble_eq_true rfl)
set_option maxRecDepth 100000 in
theorem L_law_1145 {d : Nat} {S : List Value} {h : kH} {a0 a1 a3 : Option Value} {x : Nat} : ex d mL_law 1145 [a0, a1, some (.ref x), a3] S h = ex d mL_law 1146 [a0, a1, some (.ref x), a3] (.ref x :: S) h := exs rfl
set_option maxRecDepth 100000 in
theorem L_law_1146 {d : Nat} {S : List Value} {h : kH} {a1 a2 a3 : Option Value} {x : Nat} : ex d mL_law 1146 [some (.ref x), a1, a2, a3] S h = ex d mL_law 1147 [some (.ref x), a1, a2, a3] (.ref x :: S) h := exs rfl
set_option maxRecDepth 100000 in
theorem L_law_1147 {d : Nat} {S : List Value} {h : kH} {a0 a1 a2 : Option Value} {x : Int32} : ex d mL_law 1147 [a0, a1, a2, some (.int x)] S h = ex d mL_law 1148 [a0, a1, a2, some (.int x)] (.int x :: S) h := exs rfl
set_option maxRecDepth 100000 in
theorem L_law_1148 {d : Nat} {L : kL} {S : List Value} {h : kH} : ex d mL_law 1148 L S h = ex d mL_law 1149 L (.int 1 :: S) h := exs rfl
set_option maxRecDepth 100000 in
theorem L_law_1149 {d : Nat} {L : kL} {S : List Value} {h : kH} {x y : Int32} : ex d mL_law 1149 L (.int y :: .int x :: S) h = ex d mL_law 1150 L (.int (x + y) :: S) h := exs rfl
set_option maxRecDepth 100000 in
theorem L_law_1150 {d : Nat} {L : kL} {S : List Value} {h : kH} {q : Nat} {i : Int32} : ex d mL_law 1150 L (.int i :: .ref q :: S) h = (kil h q i).bind fun v => ex d mL_law 1151 L (.int v :: S) h := exb (F := fun v => .int v :: S) (G := fun _ => h) rfl
set_option maxRecDepth 100000 in
theorem L_law_1151 {d : Nat} {L : kL} {h : kH} {v0 : Int32} {r0 : Int32} {q : Nat} : ex d mL_law 1151 L [.int v0, .ref q, .int r0] h = if kis h 13 q = true then (rn d mX12_ranked [.ref q, .int v0] h).bind fun r => ex d mL_law 1154 L (r.1.toList ++ [.int r0]) r.2 else none := exv rfl (Nat.le_of_ble_eq_true rfl)
set_option maxRecDepth 100000 in
theorem L_law_1154 {d : Nat} {L : kL} {S : List Value} {h : kH} {x y : Int32} : ex d mL_law 1154 L (.int y :: .int x :: S) h = if x = y then ex d mL_law 1506 L S h else ex d mL_law 1157 L S h := exc rfl
set_option maxRecDepth 100000 in
theorem L_law_1157 {d : Nat} {L : kL} {S : List Value} {h : kH} : ex d mL_law 1157 L S h = ex d mL_law 1158 L (.int 0 :: S) h := exs rfl
set_option maxRecDepth 100000 in
theorem L_law_1158_0 {d : Nat} {L : kL} {h : kH} : ex d mL_law 1158 L [.int 0] h = some (some (.int 0), h) := exr rfl
set_option maxRecDepth 100000 in
theorem L_law_1158_1 {d : Nat} {L : kL} {h : kH} : ex d mL_law 1158 L [.int 1] h = some (some (.int 1), h) := exr rfl
set_option maxRecDepth 100000 in
theorem L_law_1158 {d : Nat} {L : kL} {h : kH} {v : Int32} (hv : v = 0 ∨ v = 1) : ex d mL_law 1158 L [.int v] h = some (some (.int v), h) := by rcases hv with rfl | rfl <;> exact exr rfl
set_option maxRecDepth 100000 in
theorem L_law_1159 {d : Nat} {S : List Value} {h : kH} {a0 a2 a3 : Option Value} {x : Nat} : ex d mL_law 1159 [a0, some (.ref x), a2, a3] S h = ex d mL_law 1160 [a0, some (.ref x), a2, a3] (.ref x :: S) h := exs rfl
set_option maxRecDepth 100000 in
theorem L_law_1160 {d : Nat} {S : List Value} {h : kH} {a1 a2 a3 : Option Value} {x : Nat} : ex d mL_law 1160 [some (.ref x), a1, a2, a3] S h = ex d mL_law 1161 [some (.ref x), a1, a2, a3] (.ref x :: S) h := exs rfl
set_option maxRecDepth 100000 in
theorem L_law_1161 {d : Nat} {S : List Value} {h : kH} {a0 a1 a2 : Option Value} {x : Int32} : ex d mL_law 1161 [a0, a1, a2, some (.int x)] S h = ex d mL_law 1162 [a0, a1, a2, some (.int x)] (.int x :: S) h := exs rfl
set_option maxRecDepth 100000 in
theorem L_law_1162 {d : Nat} {L : kL} {S : List Value} {h : kH} : ex d mL_law 1162 L S h = ex d mL_law 1163 L (.int 1 :: S) h := exs rfl
set_option maxRecDepth 100000 in
theorem L_law_1163 {d : Nat} {L : kL} {S : List Value} {h : kH} {x y : Int32} : ex d mL_law 1163 L (.int y :: .int x :: S) h = ex d mL_law 1164 L (.int (x + y) :: S) h := exs rfl
set_option maxRecDepth 100000 in
theorem L_law_1164 {d : Nat} {L : kL} {S : List Value} {h : kH} {q : Nat} {i : Int32} : ex d mL_law 1164 L (.int i :: .ref q :: S) h = (kil h q i).bind fun v => ex d mL_law 1165 L (.int v :: S) h := exb (F := fun v => .int v :: S) (G := fun _ => h) rfl
set_option maxRecDepth 100000 in
theorem L_law_1165 {d : Nat} {L : kL} {h : kH} {v0 : Int32} {q : Nat} : ex d mL_law 1165 L [.int v0, .ref q] h = if kis h 12 q = true then (rn d mX11_faults [.ref q, .int v0] h).bind fun r => ex d mL_law 1168 L (r.1.toList ++ []) r.2 else none := exv rfl (Nat.le_of_ble_eq_true rfl)
set_option maxRecDepth 100000 in
theorem L_law_1168 {d : Nat} {S : List Value} {h : kH} {a0 a1 a3 : Option Value} {x : Nat} : ex d mL_law 1168 [a0, a1, some (.ref x), a3] S h = ex d mL_law 1169 [a0, a1, some (.ref x), a3] (.ref x :: S) h := exs rfl
set_option maxRecDepth 100000 in
theorem L_law_1169 {d : Nat} {S : List Value} {h : kH} {a1 a2 a3 : Option Value} {x : Nat} : ex d mL_law 1169 [some (.ref x), a1, a2, a3] S h = ex d mL_law 1170 [some (.ref x), a1, a2, a3] (.ref x :: S) h := exs rfl
set_option maxRecDepth 100000 in
theorem L_law_1170 {d : Nat} {S : List Value} {h : kH} {a0 a1 a2 : Option Value} {x : Int32} : ex d mL_law 1170 [a0, a1, a2, some (.int x)] S h = ex d mL_law 1171 [a0, a1, a2, some (.int x)] (.int x :: S) h := exs rfl
set_option maxRecDepth 100000 in
theorem L_law_1171 {d : Nat} {L : kL} {S : List Value} {h : kH} : ex d mL_law 1171 L S h = ex d mL_law 1172 L (.int 1 :: S) h := exs rfl
set_option maxRecDepth 100000 in
theorem L_law_1172 {d : Nat} {L : kL} {S : List Value} {h : kH} {x y : Int32} : ex d mL_law 1172 L (.int y :: .int x :: S) h = ex d mL_law 1173 L (.int (x + y) :: S) h := exs rfl
set_option maxRecDepth 100000 in
theorem L_law_1173 {d : Nat} {L : kL} {S : List Value} {h : kH} {q : Nat} {i : Int32} : ex d mL_law 1173 L (.int i :: .ref q :: S) h = (kil h q i).bind fun v => ex d mL_law 1174 L (.int v :: S) h := exb (F := fun v => .int v :: S) (G := fun _ => h) rfl
set_option maxRecDepth 100000 in
theorem L_law_1174 {d : Nat} {L : kL} {h : kH} {v0 : Int32} {r0 : Int32} {q : Nat} : ex d mL_law 1174 L [.int v0, .ref q, .int r0] h = if kis h 13 q = true then (rn d mX12_faults [.ref q, .int v0] h).bind fun r => ex d mL_law 1177 L (r.1.toList ++ [.int r0]) r.2 else none := exv rfl (Nat.le_of_ble_eq_true rfl)
set_option maxRecDepth 100000 in
theorem L_law_1177 {d : Nat} {L : kL} {S : List Value} {h : kH} {x y : Int32} : ex d mL_law 1177 L (.int y :: .int x :: S) h = if x = y then ex d mL_law 1506 L S h else ex d mL_law 1180 L S h := exc rfl
set_option maxRecDepth 100000 in
theorem L_law_1180 {d : Nat} {L : kL} {S : List Value} {h : kH} : ex d mL_law 1180 L S h = ex d mL_law 1181 L (.int 0 :: S) h := exs rfl
set_option maxRecDepth 100000 in
theorem L_law_1181_0 {d : Nat} {L : kL} {h : kH} : ex d mL_law 1181 L [.int 0] h = some (some (.int 0), h) := exr rfl
set_option maxRecDepth 100000 in
theorem L_law_1181_1 {d : Nat} {L : kL} {h : kH} : ex d mL_law 1181 L [.int 1] h = some (some (.int 1), h) := exr rfl
set_option maxRecDepth 100000 in
theorem L_law_1181 {d : Nat} {L : kL} {h : kH} {v : Int32} (hv : v = 0 ∨ v = 1) : ex d mL_law 1181 L [.int v] h = some (some (.int v), h) := by rcases hv with rfl | rfl <;> exact exr rfl
set_option maxRecDepth 100000 in
theorem L_law_1182 {d : Nat} {S : List Value} {h : kH} {a0 a2 a3 : Option Value} {x : Nat} : ex d mL_law 1182 [a0, some (.ref x), a2, a3] S h = ex d mL_law 1183 [a0, some (.ref x), a2, a3] (.ref x :: S) h := exs rfl
set_option maxRecDepth 100000 in
theorem L_law_1183 {d : Nat} {S : List Value} {h : kH} {a1 a2 a3 : Option Value} {x : Nat} : ex d mL_law 1183 [some (.ref x), a1, a2, a3] S h = ex d mL_law 1184 [some (.ref x), a1, a2, a3] (.ref x :: S) h := exs rfl
set_option maxRecDepth 100000 in
theorem L_law_1184 {d : Nat} {S : List Value} {h : kH} {a0 a1 a2 : Option Value} {x : Int32} : ex d mL_law 1184 [a0, a1, a2, some (.int x)] S h = ex d mL_law 1185 [a0, a1, a2, some (.int x)] (.int x :: S) h := exs rfl
set_option maxRecDepth 100000 in
theorem L_law_1185 {d : Nat} {L : kL} {S : List Value} {h : kH} : ex d mL_law 1185 L S h = ex d mL_law 1186 L (.int 1 :: S) h := exs rfl
set_option maxRecDepth 100000 in
theorem L_law_1186 {d : Nat} {L : kL} {S : List Value} {h : kH} {x y : Int32} : ex d mL_law 1186 L (.int y :: .int x :: S) h = ex d mL_law 1187 L (.int (x + y) :: S) h := exs rfl
set_option maxRecDepth 100000 in
theorem L_law_1187 {d : Nat} {L : kL} {S : List Value} {h : kH} {q : Nat} {i : Int32} : ex d mL_law 1187 L (.int i :: .ref q :: S) h = (kil h q i).bind fun v => ex d mL_law 1188 L (.int v :: S) h := exb (F := fun v => .int v :: S) (G := fun _ => h) rfl
set_option maxRecDepth 100000 in
theorem L_law_1188 {d : Nat} {S : List Value} {h : kH} {a1 a2 a3 : Option Value} {x : Nat} : ex d mL_law 1188 [some (.ref x), a1, a2, a3] S h = ex d mL_law 1189 [some (.ref x), a1, a2, a3] (.ref x :: S) h := exs rfl
set_option maxRecDepth 100000 in
theorem L_law_1189 {d : Nat} {S : List Value} {h : kH} {a0 a1 a2 : Option Value} {x : Int32} : ex d mL_law 1189 [a0, a1, a2, some (.int x)] S h = ex d mL_law 1190 [a0, a1, a2, some (.int x)] (.int x :: S) h := exs rfl
set_option maxRecDepth 100000 in
theorem L_law_1190 {d : Nat} {L : kL} {S : List Value} {h : kH} : ex d mL_law 1190 L S h = ex d mL_law 1191 L (.int 2 :: S) h := exs rfl
set_option maxRecDepth 100000 in
theorem L_law_1191 {d : Nat} {L : kL} {S : List Value} {h : kH} {x y : Int32} : ex d mL_law 1191 L (.int y :: .int x :: S) h = ex d mL_law 1192 L (.int (x + y) :: S) h := exs rfl
set_option maxRecDepth 100000 in
theorem L_law_1192 {d : Nat} {L : kL} {S : List Value} {h : kH} {q : Nat} {i : Int32} : ex d mL_law 1192 L (.int i :: .ref q :: S) h = (kil h q i).bind fun v => ex d mL_law 1193 L (.int v :: S) h := exb (F := fun v => .int v :: S) (G := fun _ => h) rfl
set_option maxRecDepth 100000 in
theorem L_law_1193 {d : Nat} {L : kL} {h : kH} {v0 : Int32} {v1 : Int32} {q : Nat} : ex d mL_law 1193 L [.int v1, .int v0, .ref q] h = if kis h 12 q = true then (rn d mX11_fault [.ref q, .int v0, .int v1] h).bind fun r => ex d mL_law 1196 L (r.1.toList ++ []) r.2 else none := exv rfl (Nat.le_of_ble_eq_true rfl)
set_option maxRecDepth 100000 in
theorem L_law_1196 {d : Nat} {S : List Value} {h : kH} {a0 a1 a3 : Option Value} {x : Nat} : ex d mL_law 1196 [a0, a1, some (.ref x), a3] S h = ex d mL_law 1197 [a0, a1, some (.ref x), a3] (.ref x :: S) h := exs rfl
set_option maxRecDepth 100000 in
theorem L_law_1197 {d : Nat} {S : List Value} {h : kH} {a1 a2 a3 : Option Value} {x : Nat} : ex d mL_law 1197 [some (.ref x), a1, a2, a3] S h = ex d mL_law 1198 [some (.ref x), a1, a2, a3] (.ref x :: S) h := exs rfl
set_option maxRecDepth 100000 in
theorem L_law_1198 {d : Nat} {S : List Value} {h : kH} {a0 a1 a2 : Option Value} {x : Int32} : ex d mL_law 1198 [a0, a1, a2, some (.int x)] S h = ex d mL_law 1199 [a0, a1, a2, some (.int x)] (.int x :: S) h := exs rfl
set_option maxRecDepth 100000 in
theorem L_law_1199 {d : Nat} {L : kL} {S : List Value} {h : kH} : ex d mL_law 1199 L S h = ex d mL_law 1200 L (.int 1 :: S) h := exs rfl
set_option maxRecDepth 100000 in
theorem L_law_1200 {d : Nat} {L : kL} {S : List Value} {h : kH} {x y : Int32} : ex d mL_law 1200 L (.int y :: .int x :: S) h = ex d mL_law 1201 L (.int (x + y) :: S) h := exs rfl
set_option maxRecDepth 100000 in
theorem L_law_1201 {d : Nat} {L : kL} {S : List Value} {h : kH} {q : Nat} {i : Int32} : ex d mL_law 1201 L (.int i :: .ref q :: S) h = (kil h q i).bind fun v => ex d mL_law 1202 L (.int v :: S) h := exb (F := fun v => .int v :: S) (G := fun _ => h) rfl
set_option maxRecDepth 100000 in
theorem L_law_1202 {d : Nat} {S : List Value} {h : kH} {a1 a2 a3 : Option Value} {x : Nat} : ex d mL_law 1202 [some (.ref x), a1, a2, a3] S h = ex d mL_law 1203 [some (.ref x), a1, a2, a3] (.ref x :: S) h := exs rfl
set_option maxRecDepth 100000 in
theorem L_law_1203 {d : Nat} {S : List Value} {h : kH} {a0 a1 a2 : Option Value} {x : Int32} : ex d mL_law 1203 [a0, a1, a2, some (.int x)] S h = ex d mL_law 1204 [a0, a1, a2, some (.int x)] (.int x :: S) h := exs rfl
set_option maxRecDepth 100000 in
theorem L_law_1204 {d : Nat} {L : kL} {S : List Value} {h : kH} : ex d mL_law 1204 L S h = ex d mL_law 1205 L (.int 2 :: S) h := exs rfl
set_option maxRecDepth 100000 in
theorem L_law_1205 {d : Nat} {L : kL} {S : List Value} {h : kH} {x y : Int32} : ex d mL_law 1205 L (.int y :: .int x :: S) h = ex d mL_law 1206 L (.int (x + y) :: S) h := exs rfl
set_option maxRecDepth 100000 in
theorem L_law_1206 {d : Nat} {L : kL} {S : List Value} {h : kH} {q : Nat} {i : Int32} : ex d mL_law 1206 L (.int i :: .ref q :: S) h = (kil h q i).bind fun v => ex d mL_law 1207 L (.int v :: S) h := exb (F := fun v => .int v :: S) (G := fun _ => h) rfl
set_option maxRecDepth 100000 in
theorem L_law_1207 {d : Nat} {L : kL} {h : kH} {v0 : Int32} {v1 : Int32} {r0 : Int32} {q : Nat} : ex d mL_law 1207 L [.int v1, .int v0, .ref q, .int r0] h = if kis h 13 q = true then (rn d mX12_fault [.ref q, .int v0, .int v1] h).bind fun r => ex d mL_law 1210 L (r.1.toList ++ [.int r0]) r.2 else none := exv rfl (Nat.le_of_ble_eq_true rfl)
set_option maxRecDepth 100000 in
theorem L_law_1210 {d : Nat} {L : kL} {S : List Value} {h : kH} {x y : Int32} : ex d mL_law 1210 L (.int y :: .int x :: S) h = if x = y then ex d mL_law 1506 L S h else ex d mL_law 1213 L S h := exc rfl
set_option maxRecDepth 100000 in
theorem L_law_1213 {d : Nat} {L : kL} {S : List Value} {h : kH} : ex d mL_law 1213 L S h = ex d mL_law 1214 L (.int 0 :: S) h := exs rfl
set_option maxRecDepth 100000 in
theorem L_law_1214_0 {d : Nat} {L : kL} {h : kH} : ex d mL_law 1214 L [.int 0] h = some (some (.int 0), h) := exr rfl
set_option maxRecDepth 100000 in
theorem L_law_1214_1 {d : Nat} {L : kL} {h : kH} : ex d mL_law 1214 L [.int 1] h = some (some (.int 1), h) := exr rfl
set_option maxRecDepth 100000 in
theorem L_law_1214 {d : Nat} {L : kL} {h : kH} {v : Int32} (hv : v = 0 ∨ v = 1) : ex d mL_law 1214 L [.int v] h = some (some (.int v), h) := by rcases hv with rfl | rfl <;> exact exr rfl
set_option maxRecDepth 100000 in
theorem L_law_1215 {d : Nat} {S : List Value} {h : kH} {a0 a2 a3 : Option Value} {x : Nat} : ex d mL_law 1215 [a0, some (.ref x), a2, a3] S h = ex d mL_law 1216 [a0, some (.ref x), a2, a3] (.ref x :: S) h := exs rfl
set_option maxRecDepth 100000 in
theorem L_law_1216 {d : Nat} {S : List Value} {h : kH} {a1 a2 a3 : Option Value} {x : Nat} : ex d mL_law 1216 [some (.ref x), a1, a2, a3] S h = ex d mL_law 1217 [some (.ref x), a1, a2, a3] (.ref x :: S) h := exs rfl
set_option maxRecDepth 100000 in
theorem L_law_1217 {d : Nat} {S : List Value} {h : kH} {a0 a1 a2 : Option Value} {x : Int32} : ex d mL_law 1217 [a0, a1, a2, some (.int x)] S h = ex d mL_law 1218 [a0, a1, a2, some (.int x)] (.int x :: S) h := exs rfl
set_option maxRecDepth 100000 in
theorem L_law_1218 {d : Nat} {L : kL} {S : List Value} {h : kH} : ex d mL_law 1218 L S h = ex d mL_law 1219 L (.int 1 :: S) h := exs rfl
set_option maxRecDepth 100000 in
theorem L_law_1219 {d : Nat} {L : kL} {S : List Value} {h : kH} {x y : Int32} : ex d mL_law 1219 L (.int y :: .int x :: S) h = ex d mL_law 1220 L (.int (x + y) :: S) h := exs rfl
set_option maxRecDepth 100000 in
theorem L_law_1220 {d : Nat} {L : kL} {S : List Value} {h : kH} {q : Nat} {i : Int32} : ex d mL_law 1220 L (.int i :: .ref q :: S) h = (kil h q i).bind fun v => ex d mL_law 1221 L (.int v :: S) h := exb (F := fun v => .int v :: S) (G := fun _ => h) rfl
set_option maxRecDepth 100000 in
theorem L_law_1221 {d : Nat} {S : List Value} {h : kH} {a1 a2 a3 : Option Value} {x : Nat} : ex d mL_law 1221 [some (.ref x), a1, a2, a3] S h = ex d mL_law 1222 [some (.ref x), a1, a2, a3] (.ref x :: S) h := exs rfl
set_option maxRecDepth 100000 in
theorem L_law_1222 {d : Nat} {S : List Value} {h : kH} {a0 a1 a2 : Option Value} {x : Int32} : ex d mL_law 1222 [a0, a1, a2, some (.int x)] S h = ex d mL_law 1223 [a0, a1, a2, some (.int x)] (.int x :: S) h := exs rfl
set_option maxRecDepth 100000 in
theorem L_law_1223 {d : Nat} {L : kL} {S : List Value} {h : kH} : ex d mL_law 1223 L S h = ex d mL_law 1224 L (.int 2 :: S) h := exs rfl
set_option maxRecDepth 100000 in
theorem L_law_1224 {d : Nat} {L : kL} {S : List Value} {h : kH} {x y : Int32} : ex d mL_law 1224 L (.int y :: .int x :: S) h = ex d mL_law 1225 L (.int (x + y) :: S) h := exs rfl
set_option maxRecDepth 100000 in
theorem L_law_1225 {d : Nat} {L : kL} {S : List Value} {h : kH} {q : Nat} {i : Int32} : ex d mL_law 1225 L (.int i :: .ref q :: S) h = (kil h q i).bind fun v => ex d mL_law 1226 L (.int v :: S) h := exb (F := fun v => .int v :: S) (G := fun _ => h) rfl
set_option maxRecDepth 100000 in
theorem L_law_1226 {d : Nat} {L : kL} {h : kH} {v0 : Int32} {v1 : Int32} {q : Nat} : ex d mL_law 1226 L [.int v1, .int v0, .ref q] h = if kis h 12 q = true then (rn d mX11_apart [.ref q, .int v0, .int v1] h).bind fun r => ex d mL_law 1229 L (r.1.toList ++ []) r.2 else none := exv rfl (Nat.le_of_ble_eq_true rfl)
set_option maxRecDepth 100000 in
theorem L_law_1229 {d : Nat} {S : List Value} {h : kH} {a0 a1 a3 : Option Value} {x : Nat} : ex d mL_law 1229 [a0, a1, some (.ref x), a3] S h = ex d mL_law 1230 [a0, a1, some (.ref x), a3] (.ref x :: S) h := exs rfl
set_option maxRecDepth 100000 in
theorem L_law_1230 {d : Nat} {S : List Value} {h : kH} {a1 a2 a3 : Option Value} {x : Nat} : ex d mL_law 1230 [some (.ref x), a1, a2, a3] S h = ex d mL_law 1231 [some (.ref x), a1, a2, a3] (.ref x :: S) h := exs rfl
set_option maxRecDepth 100000 in
theorem L_law_1231 {d : Nat} {S : List Value} {h : kH} {a0 a1 a2 : Option Value} {x : Int32} : ex d mL_law 1231 [a0, a1, a2, some (.int x)] S h = ex d mL_law 1232 [a0, a1, a2, some (.int x)] (.int x :: S) h := exs rfl
set_option maxRecDepth 100000 in
theorem L_law_1232 {d : Nat} {L : kL} {S : List Value} {h : kH} : ex d mL_law 1232 L S h = ex d mL_law 1233 L (.int 1 :: S) h := exs rfl
set_option maxRecDepth 100000 in
theorem L_law_1233 {d : Nat} {L : kL} {S : List Value} {h : kH} {x y : Int32} : ex d mL_law 1233 L (.int y :: .int x :: S) h = ex d mL_law 1234 L (.int (x + y) :: S) h := exs rfl
set_option maxRecDepth 100000 in
theorem L_law_1234 {d : Nat} {L : kL} {S : List Value} {h : kH} {q : Nat} {i : Int32} : ex d mL_law 1234 L (.int i :: .ref q :: S) h = (kil h q i).bind fun v => ex d mL_law 1235 L (.int v :: S) h := exb (F := fun v => .int v :: S) (G := fun _ => h) rfl
set_option maxRecDepth 100000 in
theorem L_law_1235 {d : Nat} {S : List Value} {h : kH} {a1 a2 a3 : Option Value} {x : Nat} : ex d mL_law 1235 [some (.ref x), a1, a2, a3] S h = ex d mL_law 1236 [some (.ref x), a1, a2, a3] (.ref x :: S) h := exs rfl
set_option maxRecDepth 100000 in
theorem L_law_1236 {d : Nat} {S : List Value} {h : kH} {a0 a1 a2 : Option Value} {x : Int32} : ex d mL_law 1236 [a0, a1, a2, some (.int x)] S h = ex d mL_law 1237 [a0, a1, a2, some (.int x)] (.int x :: S) h := exs rfl
set_option maxRecDepth 100000 in
theorem L_law_1237 {d : Nat} {L : kL} {S : List Value} {h : kH} : ex d mL_law 1237 L S h = ex d mL_law 1238 L (.int 2 :: S) h := exs rfl
set_option maxRecDepth 100000 in
theorem L_law_1238 {d : Nat} {L : kL} {S : List Value} {h : kH} {x y : Int32} : ex d mL_law 1238 L (.int y :: .int x :: S) h = ex d mL_law 1239 L (.int (x + y) :: S) h := exs rfl
set_option maxRecDepth 100000 in
theorem L_law_1239 {d : Nat} {L : kL} {S : List Value} {h : kH} {q : Nat} {i : Int32} : ex d mL_law 1239 L (.int i :: .ref q :: S) h = (kil h q i).bind fun v => ex d mL_law 1240 L (.int v :: S) h := exb (F := fun v => .int v :: S) (G := fun _ => h) rfl
set_option maxRecDepth 100000 in
theorem L_law_1240 {d : Nat} {L : kL} {h : kH} {v0 : Int32} {v1 : Int32} {r0 : Int32} {q : Nat} : ex d mL_law 1240 L [.int v1, .int v0, .ref q, .int r0] h = if kis h 13 q = true then (rn d mX12_apart [.ref q, .int v0, .int v1] h).bind fun r => ex d mL_law 1243 L (r.1.toList ++ [.int r0]) r.2 else none := exv rfl (Nat.le_of_ble_eq_true rfl)
set_option maxRecDepth 100000 in
theorem L_law_1243 {d : Nat} {L : kL} {S : List Value} {h : kH} {x y : Int32} : ex d mL_law 1243 L (.int y :: .int x :: S) h = if x = y then ex d mL_law 1506 L S h else ex d mL_law 1246 L S h := exc rfl
set_option maxRecDepth 100000 in
theorem L_law_1246 {d : Nat} {L : kL} {S : List Value} {h : kH} : ex d mL_law 1246 L S h = ex d mL_law 1247 L (.int 0 :: S) h := exs rfl
set_option maxRecDepth 100000 in
theorem L_law_1247_0 {d : Nat} {L : kL} {h : kH} : ex d mL_law 1247 L [.int 0] h = some (some (.int 0), h) := exr rfl
set_option maxRecDepth 100000 in
theorem L_law_1247_1 {d : Nat} {L : kL} {h : kH} : ex d mL_law 1247 L [.int 1] h = some (some (.int 1), h) := exr rfl
set_option maxRecDepth 100000 in
theorem L_law_1247 {d : Nat} {L : kL} {h : kH} {v : Int32} (hv : v = 0 ∨ v = 1) : ex d mL_law 1247 L [.int v] h = some (some (.int v), h) := by rcases hv with rfl | rfl <;> exact exr rfl
set_option maxRecDepth 100000 in
theorem L_law_1248 {d : Nat} {S : List Value} {h : kH} {a0 a2 a3 : Option Value} {x : Nat} : ex d mL_law 1248 [a0, some (.ref x), a2, a3] S h = ex d mL_law 1249 [a0, some (.ref x), a2, a3] (.ref x :: S) h := exs rfl
set_option maxRecDepth 100000 in
theorem L_law_1249 {d : Nat} {S : List Value} {h : kH} {a1 a2 a3 : Option Value} {x : Nat} : ex d mL_law 1249 [some (.ref x), a1, a2, a3] S h = ex d mL_law 1250 [some (.ref x), a1, a2, a3] (.ref x :: S) h := exs rfl
set_option maxRecDepth 100000 in
theorem L_law_1250 {d : Nat} {S : List Value} {h : kH} {a0 a1 a2 : Option Value} {x : Int32} : ex d mL_law 1250 [a0, a1, a2, some (.int x)] S h = ex d mL_law 1251 [a0, a1, a2, some (.int x)] (.int x :: S) h := exs rfl
set_option maxRecDepth 100000 in
theorem L_law_1251 {d : Nat} {L : kL} {S : List Value} {h : kH} : ex d mL_law 1251 L S h = ex d mL_law 1252 L (.int 1 :: S) h := exs rfl
set_option maxRecDepth 100000 in
theorem L_law_1252 {d : Nat} {L : kL} {S : List Value} {h : kH} {x y : Int32} : ex d mL_law 1252 L (.int y :: .int x :: S) h = ex d mL_law 1253 L (.int (x + y) :: S) h := exs rfl
set_option maxRecDepth 100000 in
theorem L_law_1253 {d : Nat} {L : kL} {S : List Value} {h : kH} {q : Nat} {i : Int32} : ex d mL_law 1253 L (.int i :: .ref q :: S) h = (kil h q i).bind fun v => ex d mL_law 1254 L (.int v :: S) h := exb (F := fun v => .int v :: S) (G := fun _ => h) rfl
set_option maxRecDepth 100000 in
theorem L_law_1254 {d : Nat} {S : List Value} {h : kH} {a1 a2 a3 : Option Value} {x : Nat} : ex d mL_law 1254 [some (.ref x), a1, a2, a3] S h = ex d mL_law 1255 [some (.ref x), a1, a2, a3] (.ref x :: S) h := exs rfl
set_option maxRecDepth 100000 in
theorem L_law_1255 {d : Nat} {S : List Value} {h : kH} {a0 a1 a2 : Option Value} {x : Int32} : ex d mL_law 1255 [a0, a1, a2, some (.int x)] S h = ex d mL_law 1256 [a0, a1, a2, some (.int x)] (.int x :: S) h := exs rfl
set_option maxRecDepth 100000 in
theorem L_law_1256 {d : Nat} {L : kL} {S : List Value} {h : kH} : ex d mL_law 1256 L S h = ex d mL_law 1257 L (.int 2 :: S) h := exs rfl
set_option maxRecDepth 100000 in
theorem L_law_1257 {d : Nat} {L : kL} {S : List Value} {h : kH} {x y : Int32} : ex d mL_law 1257 L (.int y :: .int x :: S) h = ex d mL_law 1258 L (.int (x + y) :: S) h := exs rfl
set_option maxRecDepth 100000 in
theorem L_law_1258 {d : Nat} {L : kL} {S : List Value} {h : kH} {q : Nat} {i : Int32} : ex d mL_law 1258 L (.int i :: .ref q :: S) h = (kil h q i).bind fun v => ex d mL_law 1259 L (.int v :: S) h := exb (F := fun v => .int v :: S) (G := fun _ => h) rfl
set_option maxRecDepth 100000 in
theorem L_law_1259 {d : Nat} {L : kL} {h : kH} {v0 : Int32} {v1 : Int32} {q : Nat} : ex d mL_law 1259 L [.int v1, .int v0, .ref q] h = if kis h 12 q = true then (rn d mX11_lag [.ref q, .int v0, .int v1] h).bind fun r => ex d mL_law 1262 L (r.1.toList ++ []) r.2 else none := exv rfl (Nat.le_of_ble_eq_true rfl)
set_option maxRecDepth 100000 in
theorem L_law_1262 {d : Nat} {S : List Value} {h : kH} {a0 a1 a3 : Option Value} {x : Nat} : ex d mL_law 1262 [a0, a1, some (.ref x), a3] S h = ex d mL_law 1263 [a0, a1, some (.ref x), a3] (.ref x :: S) h := exs rfl
set_option maxRecDepth 100000 in
theorem L_law_1263 {d : Nat} {S : List Value} {h : kH} {a1 a2 a3 : Option Value} {x : Nat} : ex d mL_law 1263 [some (.ref x), a1, a2, a3] S h = ex d mL_law 1264 [some (.ref x), a1, a2, a3] (.ref x :: S) h := exs rfl
set_option maxRecDepth 100000 in
theorem L_law_1264 {d : Nat} {S : List Value} {h : kH} {a0 a1 a2 : Option Value} {x : Int32} : ex d mL_law 1264 [a0, a1, a2, some (.int x)] S h = ex d mL_law 1265 [a0, a1, a2, some (.int x)] (.int x :: S) h := exs rfl
set_option maxRecDepth 100000 in
theorem L_law_1265 {d : Nat} {L : kL} {S : List Value} {h : kH} : ex d mL_law 1265 L S h = ex d mL_law 1266 L (.int 1 :: S) h := exs rfl
set_option maxRecDepth 100000 in
theorem L_law_1266 {d : Nat} {L : kL} {S : List Value} {h : kH} {x y : Int32} : ex d mL_law 1266 L (.int y :: .int x :: S) h = ex d mL_law 1267 L (.int (x + y) :: S) h := exs rfl
set_option maxRecDepth 100000 in
theorem L_law_1267 {d : Nat} {L : kL} {S : List Value} {h : kH} {q : Nat} {i : Int32} : ex d mL_law 1267 L (.int i :: .ref q :: S) h = (kil h q i).bind fun v => ex d mL_law 1268 L (.int v :: S) h := exb (F := fun v => .int v :: S) (G := fun _ => h) rfl
set_option maxRecDepth 100000 in
theorem L_law_1268 {d : Nat} {S : List Value} {h : kH} {a1 a2 a3 : Option Value} {x : Nat} : ex d mL_law 1268 [some (.ref x), a1, a2, a3] S h = ex d mL_law 1269 [some (.ref x), a1, a2, a3] (.ref x :: S) h := exs rfl
set_option maxRecDepth 100000 in
theorem L_law_1269 {d : Nat} {S : List Value} {h : kH} {a0 a1 a2 : Option Value} {x : Int32} : ex d mL_law 1269 [a0, a1, a2, some (.int x)] S h = ex d mL_law 1270 [a0, a1, a2, some (.int x)] (.int x :: S) h := exs rfl
set_option maxRecDepth 100000 in
theorem L_law_1270 {d : Nat} {L : kL} {S : List Value} {h : kH} : ex d mL_law 1270 L S h = ex d mL_law 1271 L (.int 2 :: S) h := exs rfl
set_option maxRecDepth 100000 in
theorem L_law_1271 {d : Nat} {L : kL} {S : List Value} {h : kH} {x y : Int32} : ex d mL_law 1271 L (.int y :: .int x :: S) h = ex d mL_law 1272 L (.int (x + y) :: S) h := exs rfl
set_option maxRecDepth 100000 in
theorem L_law_1272 {d : Nat} {L : kL} {S : List Value} {h : kH} {q : Nat} {i : Int32} : ex d mL_law 1272 L (.int i :: .ref q :: S) h = (kil h q i).bind fun v => ex d mL_law 1273 L (.int v :: S) h := exb (F := fun v => .int v :: S) (G := fun _ => h) rfl
set_option maxRecDepth 100000 in
theorem L_law_1273 {d : Nat} {L : kL} {h : kH} {v0 : Int32} {v1 : Int32} {r0 : Int32} {q : Nat} : ex d mL_law 1273 L [.int v1, .int v0, .ref q, .int r0] h = if kis h 13 q = true then (rn d mX12_lag [.ref q, .int v0, .int v1] h).bind fun r => ex d mL_law 1276 L (r.1.toList ++ [.int r0]) r.2 else none := exv rfl (Nat.le_of_ble_eq_true rfl)
set_option maxRecDepth 100000 in
theorem L_law_1276 {d : Nat} {L : kL} {S : List Value} {h : kH} {x y : Int32} : ex d mL_law 1276 L (.int y :: .int x :: S) h = if x = y then ex d mL_law 1506 L S h else ex d mL_law 1279 L S h := exc rfl
set_option maxRecDepth 100000 in
theorem L_law_1279 {d : Nat} {L : kL} {S : List Value} {h : kH} : ex d mL_law 1279 L S h = ex d mL_law 1280 L (.int 0 :: S) h := exs rfl
set_option maxRecDepth 100000 in
theorem L_law_1280_0 {d : Nat} {L : kL} {h : kH} : ex d mL_law 1280 L [.int 0] h = some (some (.int 0), h) := exr rfl
set_option maxRecDepth 100000 in
theorem L_law_1280_1 {d : Nat} {L : kL} {h : kH} : ex d mL_law 1280 L [.int 1] h = some (some (.int 1), h) := exr rfl
set_option maxRecDepth 100000 in
theorem L_law_1280 {d : Nat} {L : kL} {h : kH} {v : Int32} (hv : v = 0 ∨ v = 1) : ex d mL_law 1280 L [.int v] h = some (some (.int v), h) := by rcases hv with rfl | rfl <;> exact exr rfl
set_option maxRecDepth 100000 in
theorem L_law_1281 {d : Nat} {S : List Value} {h : kH} {a0 a2 a3 : Option Value} {x : Nat} : ex d mL_law 1281 [a0, some (.ref x), a2, a3] S h = ex d mL_law 1282 [a0, some (.ref x), a2, a3] (.ref x :: S) h := exs rfl
set_option maxRecDepth 100000 in
theorem L_law_1282 {d : Nat} {S : List Value} {h : kH} {a1 a2 a3 : Option Value} {x : Nat} : ex d mL_law 1282 [some (.ref x), a1, a2, a3] S h = ex d mL_law 1283 [some (.ref x), a1, a2, a3] (.ref x :: S) h := exs rfl
set_option maxRecDepth 100000 in
theorem L_law_1283 {d : Nat} {S : List Value} {h : kH} {a0 a1 a2 : Option Value} {x : Int32} : ex d mL_law 1283 [a0, a1, a2, some (.int x)] S h = ex d mL_law 1284 [a0, a1, a2, some (.int x)] (.int x :: S) h := exs rfl
set_option maxRecDepth 100000 in
theorem L_law_1284 {d : Nat} {L : kL} {S : List Value} {h : kH} : ex d mL_law 1284 L S h = ex d mL_law 1285 L (.int 1 :: S) h := exs rfl
set_option maxRecDepth 100000 in
theorem L_law_1285 {d : Nat} {L : kL} {S : List Value} {h : kH} {x y : Int32} : ex d mL_law 1285 L (.int y :: .int x :: S) h = ex d mL_law 1286 L (.int (x + y) :: S) h := exs rfl
set_option maxRecDepth 100000 in
theorem L_law_1286 {d : Nat} {L : kL} {S : List Value} {h : kH} {q : Nat} {i : Int32} : ex d mL_law 1286 L (.int i :: .ref q :: S) h = (kil h q i).bind fun v => ex d mL_law 1287 L (.int v :: S) h := exb (F := fun v => .int v :: S) (G := fun _ => h) rfl
set_option maxRecDepth 100000 in
theorem L_law_1287 {d : Nat} {S : List Value} {h : kH} {a1 a2 a3 : Option Value} {x : Nat} : ex d mL_law 1287 [some (.ref x), a1, a2, a3] S h = ex d mL_law 1288 [some (.ref x), a1, a2, a3] (.ref x :: S) h := exs rfl
set_option maxRecDepth 100000 in
theorem L_law_1288 {d : Nat} {S : List Value} {h : kH} {a0 a1 a2 : Option Value} {x : Int32} : ex d mL_law 1288 [a0, a1, a2, some (.int x)] S h = ex d mL_law 1289 [a0, a1, a2, some (.int x)] (.int x :: S) h := exs rfl
set_option maxRecDepth 100000 in
theorem L_law_1289 {d : Nat} {L : kL} {S : List Value} {h : kH} : ex d mL_law 1289 L S h = ex d mL_law 1290 L (.int 2 :: S) h := exs rfl
set_option maxRecDepth 100000 in
theorem L_law_1290 {d : Nat} {L : kL} {S : List Value} {h : kH} {x y : Int32} : ex d mL_law 1290 L (.int y :: .int x :: S) h = ex d mL_law 1291 L (.int (x + y) :: S) h := exs rfl
set_option maxRecDepth 100000 in
theorem L_law_1291 {d : Nat} {L : kL} {S : List Value} {h : kH} {q : Nat} {i : Int32} : ex d mL_law 1291 L (.int i :: .ref q :: S) h = (kil h q i).bind fun v => ex d mL_law 1292 L (.int v :: S) h := exb (F := fun v => .int v :: S) (G := fun _ => h) rfl
set_option maxRecDepth 100000 in
theorem L_law_1292 {d : Nat} {S : List Value} {h : kH} {a1 a2 a3 : Option Value} {x : Nat} : ex d mL_law 1292 [some (.ref x), a1, a2, a3] S h = ex d mL_law 1293 [some (.ref x), a1, a2, a3] (.ref x :: S) h := exs rfl
set_option maxRecDepth 100000 in
theorem L_law_1293 {d : Nat} {S : List Value} {h : kH} {a0 a1 a2 : Option Value} {x : Int32} : ex d mL_law 1293 [a0, a1, a2, some (.int x)] S h = ex d mL_law 1294 [a0, a1, a2, some (.int x)] (.int x :: S) h := exs rfl
set_option maxRecDepth 100000 in
theorem L_law_1294 {d : Nat} {L : kL} {S : List Value} {h : kH} : ex d mL_law 1294 L S h = ex d mL_law 1295 L (.int 3 :: S) h := exs rfl
set_option maxRecDepth 100000 in
theorem L_law_1295 {d : Nat} {L : kL} {S : List Value} {h : kH} {x y : Int32} : ex d mL_law 1295 L (.int y :: .int x :: S) h = ex d mL_law 1296 L (.int (x + y) :: S) h := exs rfl
set_option maxRecDepth 100000 in
theorem L_law_1296 {d : Nat} {L : kL} {S : List Value} {h : kH} {q : Nat} {i : Int32} : ex d mL_law 1296 L (.int i :: .ref q :: S) h = (kil h q i).bind fun v => ex d mL_law 1297 L (.int v :: S) h := exb (F := fun v => .int v :: S) (G := fun _ => h) rfl
set_option maxRecDepth 100000 in
theorem L_law_1297 {d : Nat} {S : List Value} {h : kH} {a1 a2 a3 : Option Value} {x : Nat} : ex d mL_law 1297 [some (.ref x), a1, a2, a3] S h = ex d mL_law 1298 [some (.ref x), a1, a2, a3] (.ref x :: S) h := exs rfl
set_option maxRecDepth 100000 in
theorem L_law_1298 {d : Nat} {S : List Value} {h : kH} {a0 a1 a2 : Option Value} {x : Int32} : ex d mL_law 1298 [a0, a1, a2, some (.int x)] S h = ex d mL_law 1299 [a0, a1, a2, some (.int x)] (.int x :: S) h := exs rfl
set_option maxRecDepth 100000 in
theorem L_law_1299 {d : Nat} {L : kL} {S : List Value} {h : kH} : ex d mL_law 1299 L S h = ex d mL_law 1300 L (.int 4 :: S) h := exs rfl
set_option maxRecDepth 100000 in
theorem L_law_1300 {d : Nat} {L : kL} {S : List Value} {h : kH} {x y : Int32} : ex d mL_law 1300 L (.int y :: .int x :: S) h = ex d mL_law 1301 L (.int (x + y) :: S) h := exs rfl
set_option maxRecDepth 100000 in
theorem L_law_1301 {d : Nat} {L : kL} {S : List Value} {h : kH} {q : Nat} {i : Int32} : ex d mL_law 1301 L (.int i :: .ref q :: S) h = (kil h q i).bind fun v => ex d mL_law 1302 L (.int v :: S) h := exb (F := fun v => .int v :: S) (G := fun _ => h) rfl
set_option maxRecDepth 100000 in
theorem L_law_1302 {d : Nat} {L : kL} {h : kH} {v0 : Int32} {v1 : Int32} {v2 : Int32} {v3 : Int32} {q : Nat} : ex d mL_law 1302 L [.int v3, .int v2, .int v1, .int v0, .ref q] h = if kis h 12 q = true then (rn d mX11_lags [.ref q, .int v0, .int v1, .int v2, .int v3] h).bind fun r => ex d mL_law 1305 L (r.1.toList ++ []) r.2 else none := exv rfl (Nat.le_of_ble_eq_true rfl)
set_option maxRecDepth 100000 in
theorem L_law_1305 {d : Nat} {S : List Value} {h : kH} {a0 a1 a3 : Option Value} {x : Nat} : ex d mL_law 1305 [a0, a1, some (.ref x), a3] S h = ex d mL_law 1306 [a0, a1, some (.ref x), a3] (.ref x :: S) h := exs rfl
set_option maxRecDepth 100000 in
theorem L_law_1306 {d : Nat} {S : List Value} {h : kH} {a1 a2 a3 : Option Value} {x : Nat} : ex d mL_law 1306 [some (.ref x), a1, a2, a3] S h = ex d mL_law 1307 [some (.ref x), a1, a2, a3] (.ref x :: S) h := exs rfl
set_option maxRecDepth 100000 in
theorem L_law_1307 {d : Nat} {S : List Value} {h : kH} {a0 a1 a2 : Option Value} {x : Int32} : ex d mL_law 1307 [a0, a1, a2, some (.int x)] S h = ex d mL_law 1308 [a0, a1, a2, some (.int x)] (.int x :: S) h := exs rfl
set_option maxRecDepth 100000 in
theorem L_law_1308 {d : Nat} {L : kL} {S : List Value} {h : kH} : ex d mL_law 1308 L S h = ex d mL_law 1309 L (.int 1 :: S) h := exs rfl
set_option maxRecDepth 100000 in
theorem L_law_1309 {d : Nat} {L : kL} {S : List Value} {h : kH} {x y : Int32} : ex d mL_law 1309 L (.int y :: .int x :: S) h = ex d mL_law 1310 L (.int (x + y) :: S) h := exs rfl
set_option maxRecDepth 100000 in
theorem L_law_1310 {d : Nat} {L : kL} {S : List Value} {h : kH} {q : Nat} {i : Int32} : ex d mL_law 1310 L (.int i :: .ref q :: S) h = (kil h q i).bind fun v => ex d mL_law 1311 L (.int v :: S) h := exb (F := fun v => .int v :: S) (G := fun _ => h) rfl
set_option maxRecDepth 100000 in
theorem L_law_1311 {d : Nat} {S : List Value} {h : kH} {a1 a2 a3 : Option Value} {x : Nat} : ex d mL_law 1311 [some (.ref x), a1, a2, a3] S h = ex d mL_law 1312 [some (.ref x), a1, a2, a3] (.ref x :: S) h := exs rfl
set_option maxRecDepth 100000 in
theorem L_law_1312 {d : Nat} {S : List Value} {h : kH} {a0 a1 a2 : Option Value} {x : Int32} : ex d mL_law 1312 [a0, a1, a2, some (.int x)] S h = ex d mL_law 1313 [a0, a1, a2, some (.int x)] (.int x :: S) h := exs rfl
set_option maxRecDepth 100000 in
theorem L_law_1313 {d : Nat} {L : kL} {S : List Value} {h : kH} : ex d mL_law 1313 L S h = ex d mL_law 1314 L (.int 2 :: S) h := exs rfl
set_option maxRecDepth 100000 in
theorem L_law_1314 {d : Nat} {L : kL} {S : List Value} {h : kH} {x y : Int32} : ex d mL_law 1314 L (.int y :: .int x :: S) h = ex d mL_law 1315 L (.int (x + y) :: S) h := exs rfl
set_option maxRecDepth 100000 in
theorem L_law_1315 {d : Nat} {L : kL} {S : List Value} {h : kH} {q : Nat} {i : Int32} : ex d mL_law 1315 L (.int i :: .ref q :: S) h = (kil h q i).bind fun v => ex d mL_law 1316 L (.int v :: S) h := exb (F := fun v => .int v :: S) (G := fun _ => h) rfl
set_option maxRecDepth 100000 in
theorem L_law_1316 {d : Nat} {S : List Value} {h : kH} {a1 a2 a3 : Option Value} {x : Nat} : ex d mL_law 1316 [some (.ref x), a1, a2, a3] S h = ex d mL_law 1317 [some (.ref x), a1, a2, a3] (.ref x :: S) h := exs rfl
set_option maxRecDepth 100000 in
theorem L_law_1317 {d : Nat} {S : List Value} {h : kH} {a0 a1 a2 : Option Value} {x : Int32} : ex d mL_law 1317 [a0, a1, a2, some (.int x)] S h = ex d mL_law 1318 [a0, a1, a2, some (.int x)] (.int x :: S) h := exs rfl
set_option maxRecDepth 100000 in
theorem L_law_1318 {d : Nat} {L : kL} {S : List Value} {h : kH} : ex d mL_law 1318 L S h = ex d mL_law 1319 L (.int 3 :: S) h := exs rfl
set_option maxRecDepth 100000 in
theorem L_law_1319 {d : Nat} {L : kL} {S : List Value} {h : kH} {x y : Int32} : ex d mL_law 1319 L (.int y :: .int x :: S) h = ex d mL_law 1320 L (.int (x + y) :: S) h := exs rfl
set_option maxRecDepth 100000 in
theorem L_law_1320 {d : Nat} {L : kL} {S : List Value} {h : kH} {q : Nat} {i : Int32} : ex d mL_law 1320 L (.int i :: .ref q :: S) h = (kil h q i).bind fun v => ex d mL_law 1321 L (.int v :: S) h := exb (F := fun v => .int v :: S) (G := fun _ => h) rfl
set_option maxRecDepth 100000 in
theorem L_law_1321 {d : Nat} {S : List Value} {h : kH} {a1 a2 a3 : Option Value} {x : Nat} : ex d mL_law 1321 [some (.ref x), a1, a2, a3] S h = ex d mL_law 1322 [some (.ref x), a1, a2, a3] (.ref x :: S) h := exs rfl
set_option maxRecDepth 100000 in
theorem L_law_1322 {d : Nat} {S : List Value} {h : kH} {a0 a1 a2 : Option Value} {x : Int32} : ex d mL_law 1322 [a0, a1, a2, some (.int x)] S h = ex d mL_law 1323 [a0, a1, a2, some (.int x)] (.int x :: S) h := exs rfl
set_option maxRecDepth 100000 in
theorem L_law_1323 {d : Nat} {L : kL} {S : List Value} {h : kH} : ex d mL_law 1323 L S h = ex d mL_law 1324 L (.int 4 :: S) h := exs rfl
set_option maxRecDepth 100000 in
theorem L_law_1324 {d : Nat} {L : kL} {S : List Value} {h : kH} {x y : Int32} : ex d mL_law 1324 L (.int y :: .int x :: S) h = ex d mL_law 1325 L (.int (x + y) :: S) h := exs rfl
set_option maxRecDepth 100000 in
theorem L_law_1325 {d : Nat} {L : kL} {S : List Value} {h : kH} {q : Nat} {i : Int32} : ex d mL_law 1325 L (.int i :: .ref q :: S) h = (kil h q i).bind fun v => ex d mL_law 1326 L (.int v :: S) h := exb (F := fun v => .int v :: S) (G := fun _ => h) rfl
set_option maxRecDepth 100000 in
theorem L_law_1326 {d : Nat} {L : kL} {h : kH} {v0 : Int32} {v1 : Int32} {v2 : Int32} {v3 : Int32} {r0 : Int32} {q : Nat} : ex d mL_law 1326 L [.int v3, .int v2, .int v1, .int v0, .ref q, .int r0] h = if kis h 13 q = true then (rn d mX12_lags [.ref q, .int v0, .int v1, .int v2, .int v3] h).bind fun r => ex d mL_law 1329 L (r.1.toList ++ [.int r0]) r.2 else none := exv rfl (Nat.le_of_ble_eq_true rfl)
set_option maxRecDepth 100000 in
theorem L_law_1329 {d : Nat} {L : kL} {S : List Value} {h : kH} {x y : Int32} : ex d mL_law 1329 L (.int y :: .int x :: S) h = if x = y then ex d mL_law 1506 L S h else ex d mL_law 1332 L S h := exc rfl
set_option maxRecDepth 100000 in
theorem L_law_1332 {d : Nat} {L : kL} {S : List Value} {h : kH} : ex d mL_law 1332 L S h = ex d mL_law 1333 L (.int 0 :: S) h := exs rfl
set_option maxRecDepth 100000 in
theorem L_law_1333_0 {d : Nat} {L : kL} {h : kH} : ex d mL_law 1333 L [.int 0] h = some (some (.int 0), h) := exr rfl
set_option maxRecDepth 100000 in
theorem L_law_1333_1 {d : Nat} {L : kL} {h : kH} : ex d mL_law 1333 L [.int 1] h = some (some (.int 1), h) := exr rfl
set_option maxRecDepth 100000 in
theorem L_law_1333 {d : Nat} {L : kL} {h : kH} {v : Int32} (hv : v = 0 ∨ v = 1) : ex d mL_law 1333 L [.int v] h = some (some (.int v), h) := by rcases hv with rfl | rfl <;> exact exr rfl
set_option maxRecDepth 100000 in
theorem L_law_1334 {d : Nat} {S : List Value} {h : kH} {a0 a2 a3 : Option Value} {x : Nat} : ex d mL_law 1334 [a0, some (.ref x), a2, a3] S h = ex d mL_law 1335 [a0, some (.ref x), a2, a3] (.ref x :: S) h := exs rfl
set_option maxRecDepth 100000 in
theorem L_law_1335 {d : Nat} {S : List Value} {h : kH} {a1 a2 a3 : Option Value} {x : Nat} : ex d mL_law 1335 [some (.ref x), a1, a2, a3] S h = ex d mL_law 1336 [some (.ref x), a1, a2, a3] (.ref x :: S) h := exs rfl
set_option maxRecDepth 100000 in
theorem L_law_1336 {d : Nat} {S : List Value} {h : kH} {a0 a1 a2 : Option Value} {x : Int32} : ex d mL_law 1336 [a0, a1, a2, some (.int x)] S h = ex d mL_law 1337 [a0, a1, a2, some (.int x)] (.int x :: S) h := exs rfl
set_option maxRecDepth 100000 in
theorem L_law_1337 {d : Nat} {L : kL} {S : List Value} {h : kH} : ex d mL_law 1337 L S h = ex d mL_law 1338 L (.int 1 :: S) h := exs rfl
set_option maxRecDepth 100000 in
theorem L_law_1338 {d : Nat} {L : kL} {S : List Value} {h : kH} {x y : Int32} : ex d mL_law 1338 L (.int y :: .int x :: S) h = ex d mL_law 1339 L (.int (x + y) :: S) h := exs rfl
set_option maxRecDepth 100000 in
theorem L_law_1339 {d : Nat} {L : kL} {S : List Value} {h : kH} {q : Nat} {i : Int32} : ex d mL_law 1339 L (.int i :: .ref q :: S) h = (kil h q i).bind fun v => ex d mL_law 1340 L (.int v :: S) h := exb (F := fun v => .int v :: S) (G := fun _ => h) rfl
set_option maxRecDepth 100000 in
theorem L_law_1340 {d : Nat} {S : List Value} {h : kH} {a1 a2 a3 : Option Value} {x : Nat} : ex d mL_law 1340 [some (.ref x), a1, a2, a3] S h = ex d mL_law 1341 [some (.ref x), a1, a2, a3] (.ref x :: S) h := exs rfl
set_option maxRecDepth 100000 in
theorem L_law_1341 {d : Nat} {S : List Value} {h : kH} {a0 a1 a2 : Option Value} {x : Int32} : ex d mL_law 1341 [a0, a1, a2, some (.int x)] S h = ex d mL_law 1342 [a0, a1, a2, some (.int x)] (.int x :: S) h := exs rfl
set_option maxRecDepth 100000 in
theorem L_law_1342 {d : Nat} {L : kL} {S : List Value} {h : kH} : ex d mL_law 1342 L S h = ex d mL_law 1343 L (.int 2 :: S) h := exs rfl
set_option maxRecDepth 100000 in
theorem L_law_1343 {d : Nat} {L : kL} {S : List Value} {h : kH} {x y : Int32} : ex d mL_law 1343 L (.int y :: .int x :: S) h = ex d mL_law 1344 L (.int (x + y) :: S) h := exs rfl
set_option maxRecDepth 100000 in
theorem L_law_1344 {d : Nat} {L : kL} {S : List Value} {h : kH} {q : Nat} {i : Int32} : ex d mL_law 1344 L (.int i :: .ref q :: S) h = (kil h q i).bind fun v => ex d mL_law 1345 L (.int v :: S) h := exb (F := fun v => .int v :: S) (G := fun _ => h) rfl
set_option maxRecDepth 100000 in
theorem L_law_1345 {d : Nat} {L : kL} {h : kH} {v0 : Int32} {v1 : Int32} {q : Nat} : ex d mL_law 1345 L [.int v1, .int v0, .ref q] h = if kis h 12 q = true then (rn d mX11_nearest [.ref q, .int v0, .int v1] h).bind fun r => ex d mL_law 1348 L (r.1.toList ++ []) r.2 else none := exv rfl (Nat.le_of_ble_eq_true rfl)
set_option maxRecDepth 100000 in
theorem L_law_1348 {d : Nat} {S : List Value} {h : kH} {a0 a1 a3 : Option Value} {x : Nat} : ex d mL_law 1348 [a0, a1, some (.ref x), a3] S h = ex d mL_law 1349 [a0, a1, some (.ref x), a3] (.ref x :: S) h := exs rfl
set_option maxRecDepth 100000 in
theorem L_law_1349 {d : Nat} {S : List Value} {h : kH} {a1 a2 a3 : Option Value} {x : Nat} : ex d mL_law 1349 [some (.ref x), a1, a2, a3] S h = ex d mL_law 1350 [some (.ref x), a1, a2, a3] (.ref x :: S) h := exs rfl
set_option maxRecDepth 100000 in
theorem L_law_1350 {d : Nat} {S : List Value} {h : kH} {a0 a1 a2 : Option Value} {x : Int32} : ex d mL_law 1350 [a0, a1, a2, some (.int x)] S h = ex d mL_law 1351 [a0, a1, a2, some (.int x)] (.int x :: S) h := exs rfl
set_option maxRecDepth 100000 in
theorem L_law_1351 {d : Nat} {L : kL} {S : List Value} {h : kH} : ex d mL_law 1351 L S h = ex d mL_law 1352 L (.int 1 :: S) h := exs rfl
set_option maxRecDepth 100000 in
theorem L_law_1352 {d : Nat} {L : kL} {S : List Value} {h : kH} {x y : Int32} : ex d mL_law 1352 L (.int y :: .int x :: S) h = ex d mL_law 1353 L (.int (x + y) :: S) h := exs rfl
set_option maxRecDepth 100000 in
theorem L_law_1353 {d : Nat} {L : kL} {S : List Value} {h : kH} {q : Nat} {i : Int32} : ex d mL_law 1353 L (.int i :: .ref q :: S) h = (kil h q i).bind fun v => ex d mL_law 1354 L (.int v :: S) h := exb (F := fun v => .int v :: S) (G := fun _ => h) rfl
set_option maxRecDepth 100000 in
theorem L_law_1354 {d : Nat} {S : List Value} {h : kH} {a1 a2 a3 : Option Value} {x : Nat} : ex d mL_law 1354 [some (.ref x), a1, a2, a3] S h = ex d mL_law 1355 [some (.ref x), a1, a2, a3] (.ref x :: S) h := exs rfl
set_option maxRecDepth 100000 in
theorem L_law_1355 {d : Nat} {S : List Value} {h : kH} {a0 a1 a2 : Option Value} {x : Int32} : ex d mL_law 1355 [a0, a1, a2, some (.int x)] S h = ex d mL_law 1356 [a0, a1, a2, some (.int x)] (.int x :: S) h := exs rfl
set_option maxRecDepth 100000 in
theorem L_law_1356 {d : Nat} {L : kL} {S : List Value} {h : kH} : ex d mL_law 1356 L S h = ex d mL_law 1357 L (.int 2 :: S) h := exs rfl
set_option maxRecDepth 100000 in
theorem L_law_1357 {d : Nat} {L : kL} {S : List Value} {h : kH} {x y : Int32} : ex d mL_law 1357 L (.int y :: .int x :: S) h = ex d mL_law 1358 L (.int (x + y) :: S) h := exs rfl
set_option maxRecDepth 100000 in
theorem L_law_1358 {d : Nat} {L : kL} {S : List Value} {h : kH} {q : Nat} {i : Int32} : ex d mL_law 1358 L (.int i :: .ref q :: S) h = (kil h q i).bind fun v => ex d mL_law 1359 L (.int v :: S) h := exb (F := fun v => .int v :: S) (G := fun _ => h) rfl
set_option maxRecDepth 100000 in
theorem L_law_1359 {d : Nat} {L : kL} {h : kH} {v0 : Int32} {v1 : Int32} {r0 : Int32} {q : Nat} : ex d mL_law 1359 L [.int v1, .int v0, .ref q, .int r0] h = if kis h 13 q = true then (rn d mX12_nearest [.ref q, .int v0, .int v1] h).bind fun r => ex d mL_law 1362 L (r.1.toList ++ [.int r0]) r.2 else none := exv rfl (Nat.le_of_ble_eq_true rfl)
set_option maxRecDepth 100000 in
theorem L_law_1362 {d : Nat} {L : kL} {S : List Value} {h : kH} {x y : Int32} : ex d mL_law 1362 L (.int y :: .int x :: S) h = if x = y then ex d mL_law 1506 L S h else ex d mL_law 1365 L S h := exc rfl
set_option maxRecDepth 100000 in
theorem L_law_1365 {d : Nat} {L : kL} {S : List Value} {h : kH} : ex d mL_law 1365 L S h = ex d mL_law 1366 L (.int 0 :: S) h := exs rfl
set_option maxRecDepth 100000 in
theorem L_law_1366_0 {d : Nat} {L : kL} {h : kH} : ex d mL_law 1366 L [.int 0] h = some (some (.int 0), h) := exr rfl
set_option maxRecDepth 100000 in
theorem L_law_1366_1 {d : Nat} {L : kL} {h : kH} : ex d mL_law 1366 L [.int 1] h = some (some (.int 1), h) := exr rfl
set_option maxRecDepth 100000 in
theorem L_law_1366 {d : Nat} {L : kL} {h : kH} {v : Int32} (hv : v = 0 ∨ v = 1) : ex d mL_law 1366 L [.int v] h = some (some (.int v), h) := by rcases hv with rfl | rfl <;> exact exr rfl
set_option maxRecDepth 100000 in
theorem L_law_1367 {d : Nat} {S : List Value} {h : kH} {a0 a2 a3 : Option Value} {x : Nat} : ex d mL_law 1367 [a0, some (.ref x), a2, a3] S h = ex d mL_law 1368 [a0, some (.ref x), a2, a3] (.ref x :: S) h := exs rfl
set_option maxRecDepth 100000 in
theorem L_law_1368 {d : Nat} {S : List Value} {h : kH} {a1 a2 a3 : Option Value} {x : Nat} : ex d mL_law 1368 [some (.ref x), a1, a2, a3] S h = ex d mL_law 1369 [some (.ref x), a1, a2, a3] (.ref x :: S) h := exs rfl
set_option maxRecDepth 100000 in
theorem L_law_1369 {d : Nat} {S : List Value} {h : kH} {a0 a1 a2 : Option Value} {x : Int32} : ex d mL_law 1369 [a0, a1, a2, some (.int x)] S h = ex d mL_law 1370 [a0, a1, a2, some (.int x)] (.int x :: S) h := exs rfl
set_option maxRecDepth 100000 in
theorem L_law_1370 {d : Nat} {L : kL} {S : List Value} {h : kH} : ex d mL_law 1370 L S h = ex d mL_law 1371 L (.int 1 :: S) h := exs rfl
set_option maxRecDepth 100000 in
theorem L_law_1371 {d : Nat} {L : kL} {S : List Value} {h : kH} {x y : Int32} : ex d mL_law 1371 L (.int y :: .int x :: S) h = ex d mL_law 1372 L (.int (x + y) :: S) h := exs rfl
set_option maxRecDepth 100000 in
theorem L_law_1372 {d : Nat} {L : kL} {S : List Value} {h : kH} {q : Nat} {i : Int32} : ex d mL_law 1372 L (.int i :: .ref q :: S) h = (kil h q i).bind fun v => ex d mL_law 1373 L (.int v :: S) h := exb (F := fun v => .int v :: S) (G := fun _ => h) rfl
set_option maxRecDepth 100000 in
theorem L_law_1373 {d : Nat} {S : List Value} {h : kH} {a1 a2 a3 : Option Value} {x : Nat} : ex d mL_law 1373 [some (.ref x), a1, a2, a3] S h = ex d mL_law 1374 [some (.ref x), a1, a2, a3] (.ref x :: S) h := exs rfl
set_option maxRecDepth 100000 in
theorem L_law_1374 {d : Nat} {S : List Value} {h : kH} {a0 a1 a2 : Option Value} {x : Int32} : ex d mL_law 1374 [a0, a1, a2, some (.int x)] S h = ex d mL_law 1375 [a0, a1, a2, some (.int x)] (.int x :: S) h := exs rfl
set_option maxRecDepth 100000 in
theorem L_law_1375 {d : Nat} {L : kL} {S : List Value} {h : kH} : ex d mL_law 1375 L S h = ex d mL_law 1376 L (.int 2 :: S) h := exs rfl
set_option maxRecDepth 100000 in
theorem L_law_1376 {d : Nat} {L : kL} {S : List Value} {h : kH} {x y : Int32} : ex d mL_law 1376 L (.int y :: .int x :: S) h = ex d mL_law 1377 L (.int (x + y) :: S) h := exs rfl
set_option maxRecDepth 100000 in
theorem L_law_1377 {d : Nat} {L : kL} {S : List Value} {h : kH} {q : Nat} {i : Int32} : ex d mL_law 1377 L (.int i :: .ref q :: S) h = (kil h q i).bind fun v => ex d mL_law 1378 L (.int v :: S) h := exb (F := fun v => .int v :: S) (G := fun _ => h) rfl
set_option maxRecDepth 100000 in
theorem L_law_1378 {d : Nat} {S : List Value} {h : kH} {a1 a2 a3 : Option Value} {x : Nat} : ex d mL_law 1378 [some (.ref x), a1, a2, a3] S h = ex d mL_law 1379 [some (.ref x), a1, a2, a3] (.ref x :: S) h := exs rfl
set_option maxRecDepth 100000 in
theorem L_law_1379 {d : Nat} {S : List Value} {h : kH} {a0 a1 a2 : Option Value} {x : Int32} : ex d mL_law 1379 [a0, a1, a2, some (.int x)] S h = ex d mL_law 1380 [a0, a1, a2, some (.int x)] (.int x :: S) h := exs rfl
set_option maxRecDepth 100000 in
theorem L_law_1380 {d : Nat} {L : kL} {S : List Value} {h : kH} : ex d mL_law 1380 L S h = ex d mL_law 1381 L (.int 3 :: S) h := exs rfl
set_option maxRecDepth 100000 in
theorem L_law_1381 {d : Nat} {L : kL} {S : List Value} {h : kH} {x y : Int32} : ex d mL_law 1381 L (.int y :: .int x :: S) h = ex d mL_law 1382 L (.int (x + y) :: S) h := exs rfl
set_option maxRecDepth 100000 in
theorem L_law_1382 {d : Nat} {L : kL} {S : List Value} {h : kH} {q : Nat} {i : Int32} : ex d mL_law 1382 L (.int i :: .ref q :: S) h = (kil h q i).bind fun v => ex d mL_law 1383 L (.int v :: S) h := exb (F := fun v => .int v :: S) (G := fun _ => h) rfl
set_option maxRecDepth 100000 in
theorem L_law_1383 {d : Nat} {S : List Value} {h : kH} {a1 a2 a3 : Option Value} {x : Nat} : ex d mL_law 1383 [some (.ref x), a1, a2, a3] S h = ex d mL_law 1384 [some (.ref x), a1, a2, a3] (.ref x :: S) h := exs rfl
set_option maxRecDepth 100000 in
theorem L_law_1384 {d : Nat} {S : List Value} {h : kH} {a0 a1 a2 : Option Value} {x : Int32} : ex d mL_law 1384 [a0, a1, a2, some (.int x)] S h = ex d mL_law 1385 [a0, a1, a2, some (.int x)] (.int x :: S) h := exs rfl
set_option maxRecDepth 100000 in
theorem L_law_1385 {d : Nat} {L : kL} {S : List Value} {h : kH} : ex d mL_law 1385 L S h = ex d mL_law 1386 L (.int 4 :: S) h := exs rfl
set_option maxRecDepth 100000 in
theorem L_law_1386 {d : Nat} {L : kL} {S : List Value} {h : kH} {x y : Int32} : ex d mL_law 1386 L (.int y :: .int x :: S) h = ex d mL_law 1387 L (.int (x + y) :: S) h := exs rfl
set_option maxRecDepth 100000 in
theorem L_law_1387 {d : Nat} {L : kL} {S : List Value} {h : kH} {q : Nat} {i : Int32} : ex d mL_law 1387 L (.int i :: .ref q :: S) h = (kil h q i).bind fun v => ex d mL_law 1388 L (.int v :: S) h := exb (F := fun v => .int v :: S) (G := fun _ => h) rfl
set_option maxRecDepth 100000 in
theorem L_law_1388 {d : Nat} {S : List Value} {h : kH} {a1 a2 a3 : Option Value} {x : Nat} : ex d mL_law 1388 [some (.ref x), a1, a2, a3] S h = ex d mL_law 1389 [some (.ref x), a1, a2, a3] (.ref x :: S) h := exs rfl
set_option maxRecDepth 100000 in
theorem L_law_1389 {d : Nat} {S : List Value} {h : kH} {a0 a1 a2 : Option Value} {x : Int32} : ex d mL_law 1389 [a0, a1, a2, some (.int x)] S h = ex d mL_law 1390 [a0, a1, a2, some (.int x)] (.int x :: S) h := exs rfl
set_option maxRecDepth 100000 in
theorem L_law_1390 {d : Nat} {L : kL} {S : List Value} {h : kH} : ex d mL_law 1390 L S h = ex d mL_law 1391 L (.int 5 :: S) h := exs rfl
set_option maxRecDepth 100000 in
theorem L_law_1391 {d : Nat} {L : kL} {S : List Value} {h : kH} {x y : Int32} : ex d mL_law 1391 L (.int y :: .int x :: S) h = ex d mL_law 1392 L (.int (x + y) :: S) h := exs rfl
set_option maxRecDepth 100000 in
theorem L_law_1392 {d : Nat} {L : kL} {S : List Value} {h : kH} {q : Nat} {i : Int32} : ex d mL_law 1392 L (.int i :: .ref q :: S) h = (kil h q i).bind fun v => ex d mL_law 1393 L (.int v :: S) h := exb (F := fun v => .int v :: S) (G := fun _ => h) rfl
set_option maxRecDepth 100000 in
theorem L_law_1393 {d : Nat} {L : kL} {h : kH} {v0 : Int32} {v1 : Int32} {v2 : Int32} {v3 : Int32} {v4 : Int32} {q : Nat} : ex d mL_law 1393 L [.int v4, .int v3, .int v2, .int v1, .int v0, .ref q] h = if kis h 12 q = true then (rn d mX11_tried [.ref q, .int v0, .int v1, .int v2, .int v3, .int v4] h).bind fun r => ex d mL_law 1396 L (r.1.toList ++ []) r.2 else none := exv rfl (Nat.le_of_ble_eq_true rfl)
set_option maxRecDepth 100000 in
theorem L_law_1396 {d : Nat} {S : List Value} {h : kH} {a0 a1 a3 : Option Value} {x : Nat} : ex d mL_law 1396 [a0, a1, some (.ref x), a3] S h = ex d mL_law 1397 [a0, a1, some (.ref x), a3] (.ref x :: S) h := exs rfl
set_option maxRecDepth 100000 in
theorem L_law_1397 {d : Nat} {S : List Value} {h : kH} {a1 a2 a3 : Option Value} {x : Nat} : ex d mL_law 1397 [some (.ref x), a1, a2, a3] S h = ex d mL_law 1398 [some (.ref x), a1, a2, a3] (.ref x :: S) h := exs rfl
set_option maxRecDepth 100000 in
theorem L_law_1398 {d : Nat} {S : List Value} {h : kH} {a0 a1 a2 : Option Value} {x : Int32} : ex d mL_law 1398 [a0, a1, a2, some (.int x)] S h = ex d mL_law 1399 [a0, a1, a2, some (.int x)] (.int x :: S) h := exs rfl
set_option maxRecDepth 100000 in
theorem L_law_1399 {d : Nat} {L : kL} {S : List Value} {h : kH} : ex d mL_law 1399 L S h = ex d mL_law 1400 L (.int 1 :: S) h := exs rfl
set_option maxRecDepth 100000 in
theorem L_law_1400 {d : Nat} {L : kL} {S : List Value} {h : kH} {x y : Int32} : ex d mL_law 1400 L (.int y :: .int x :: S) h = ex d mL_law 1401 L (.int (x + y) :: S) h := exs rfl
set_option maxRecDepth 100000 in
theorem L_law_1401 {d : Nat} {L : kL} {S : List Value} {h : kH} {q : Nat} {i : Int32} : ex d mL_law 1401 L (.int i :: .ref q :: S) h = (kil h q i).bind fun v => ex d mL_law 1402 L (.int v :: S) h := exb (F := fun v => .int v :: S) (G := fun _ => h) rfl
set_option maxRecDepth 100000 in
theorem L_law_1402 {d : Nat} {S : List Value} {h : kH} {a1 a2 a3 : Option Value} {x : Nat} : ex d mL_law 1402 [some (.ref x), a1, a2, a3] S h = ex d mL_law 1403 [some (.ref x), a1, a2, a3] (.ref x :: S) h := exs rfl
set_option maxRecDepth 100000 in
theorem L_law_1403 {d : Nat} {S : List Value} {h : kH} {a0 a1 a2 : Option Value} {x : Int32} : ex d mL_law 1403 [a0, a1, a2, some (.int x)] S h = ex d mL_law 1404 [a0, a1, a2, some (.int x)] (.int x :: S) h := exs rfl
set_option maxRecDepth 100000 in
theorem L_law_1404 {d : Nat} {L : kL} {S : List Value} {h : kH} : ex d mL_law 1404 L S h = ex d mL_law 1405 L (.int 2 :: S) h := exs rfl
set_option maxRecDepth 100000 in
theorem L_law_1405 {d : Nat} {L : kL} {S : List Value} {h : kH} {x y : Int32} : ex d mL_law 1405 L (.int y :: .int x :: S) h = ex d mL_law 1406 L (.int (x + y) :: S) h := exs rfl
set_option maxRecDepth 100000 in
theorem L_law_1406 {d : Nat} {L : kL} {S : List Value} {h : kH} {q : Nat} {i : Int32} : ex d mL_law 1406 L (.int i :: .ref q :: S) h = (kil h q i).bind fun v => ex d mL_law 1407 L (.int v :: S) h := exb (F := fun v => .int v :: S) (G := fun _ => h) rfl
set_option maxRecDepth 100000 in
theorem L_law_1407 {d : Nat} {S : List Value} {h : kH} {a1 a2 a3 : Option Value} {x : Nat} : ex d mL_law 1407 [some (.ref x), a1, a2, a3] S h = ex d mL_law 1408 [some (.ref x), a1, a2, a3] (.ref x :: S) h := exs rfl
set_option maxRecDepth 100000 in
theorem L_law_1408 {d : Nat} {S : List Value} {h : kH} {a0 a1 a2 : Option Value} {x : Int32} : ex d mL_law 1408 [a0, a1, a2, some (.int x)] S h = ex d mL_law 1409 [a0, a1, a2, some (.int x)] (.int x :: S) h := exs rfl
set_option maxRecDepth 100000 in
theorem L_law_1409 {d : Nat} {L : kL} {S : List Value} {h : kH} : ex d mL_law 1409 L S h = ex d mL_law 1410 L (.int 3 :: S) h := exs rfl
set_option maxRecDepth 100000 in
theorem L_law_1410 {d : Nat} {L : kL} {S : List Value} {h : kH} {x y : Int32} : ex d mL_law 1410 L (.int y :: .int x :: S) h = ex d mL_law 1411 L (.int (x + y) :: S) h := exs rfl
set_option maxRecDepth 100000 in
theorem L_law_1411 {d : Nat} {L : kL} {S : List Value} {h : kH} {q : Nat} {i : Int32} : ex d mL_law 1411 L (.int i :: .ref q :: S) h = (kil h q i).bind fun v => ex d mL_law 1412 L (.int v :: S) h := exb (F := fun v => .int v :: S) (G := fun _ => h) rfl
set_option maxRecDepth 100000 in
theorem L_law_1412 {d : Nat} {S : List Value} {h : kH} {a1 a2 a3 : Option Value} {x : Nat} : ex d mL_law 1412 [some (.ref x), a1, a2, a3] S h = ex d mL_law 1413 [some (.ref x), a1, a2, a3] (.ref x :: S) h := exs rfl
set_option maxRecDepth 100000 in
theorem L_law_1413 {d : Nat} {S : List Value} {h : kH} {a0 a1 a2 : Option Value} {x : Int32} : ex d mL_law 1413 [a0, a1, a2, some (.int x)] S h = ex d mL_law 1414 [a0, a1, a2, some (.int x)] (.int x :: S) h := exs rfl
set_option maxRecDepth 100000 in
theorem L_law_1414 {d : Nat} {L : kL} {S : List Value} {h : kH} : ex d mL_law 1414 L S h = ex d mL_law 1415 L (.int 4 :: S) h := exs rfl
set_option maxRecDepth 100000 in
theorem L_law_1415 {d : Nat} {L : kL} {S : List Value} {h : kH} {x y : Int32} : ex d mL_law 1415 L (.int y :: .int x :: S) h = ex d mL_law 1416 L (.int (x + y) :: S) h := exs rfl
set_option maxRecDepth 100000 in
theorem L_law_1416 {d : Nat} {L : kL} {S : List Value} {h : kH} {q : Nat} {i : Int32} : ex d mL_law 1416 L (.int i :: .ref q :: S) h = (kil h q i).bind fun v => ex d mL_law 1417 L (.int v :: S) h := exb (F := fun v => .int v :: S) (G := fun _ => h) rfl
set_option maxRecDepth 100000 in
theorem L_law_1417 {d : Nat} {S : List Value} {h : kH} {a1 a2 a3 : Option Value} {x : Nat} : ex d mL_law 1417 [some (.ref x), a1, a2, a3] S h = ex d mL_law 1418 [some (.ref x), a1, a2, a3] (.ref x :: S) h := exs rfl
set_option maxRecDepth 100000 in
theorem L_law_1418 {d : Nat} {S : List Value} {h : kH} {a0 a1 a2 : Option Value} {x : Int32} : ex d mL_law 1418 [a0, a1, a2, some (.int x)] S h = ex d mL_law 1419 [a0, a1, a2, some (.int x)] (.int x :: S) h := exs rfl
set_option maxRecDepth 100000 in
theorem L_law_1419 {d : Nat} {L : kL} {S : List Value} {h : kH} : ex d mL_law 1419 L S h = ex d mL_law 1420 L (.int 5 :: S) h := exs rfl
set_option maxRecDepth 100000 in
theorem L_law_1420 {d : Nat} {L : kL} {S : List Value} {h : kH} {x y : Int32} : ex d mL_law 1420 L (.int y :: .int x :: S) h = ex d mL_law 1421 L (.int (x + y) :: S) h := exs rfl
set_option maxRecDepth 100000 in
theorem L_law_1421 {d : Nat} {L : kL} {S : List Value} {h : kH} {q : Nat} {i : Int32} : ex d mL_law 1421 L (.int i :: .ref q :: S) h = (kil h q i).bind fun v => ex d mL_law 1422 L (.int v :: S) h := exb (F := fun v => .int v :: S) (G := fun _ => h) rfl
set_option maxRecDepth 100000 in
theorem L_law_1422 {d : Nat} {L : kL} {h : kH} {v0 : Int32} {v1 : Int32} {v2 : Int32} {v3 : Int32} {v4 : Int32} {r0 : Int32} {q : Nat} : ex d mL_law 1422 L [.int v4, .int v3, .int v2, .int v1, .int v0, .ref q, .int r0] h = if kis h 13 q = true then (rn d mX12_tried [.ref q, .int v0, .int v1, .int v2, .int v3, .int v4] h).bind fun r => ex d mL_law 1425 L (r.1.toList ++ [.int r0]) r.2 else none := exv rfl (Nat.le_of_ble_eq_true rfl)
set_option maxRecDepth 100000 in
theorem L_law_1425 {d : Nat} {L : kL} {S : List Value} {h : kH} {x y : Int32} : ex d mL_law 1425 L (.int y :: .int x :: S) h = if x = y then ex d mL_law 1506 L S h else ex d mL_law 1428 L S h := exc rfl
set_option maxRecDepth 100000 in
theorem L_law_1428 {d : Nat} {L : kL} {S : List Value} {h : kH} : ex d mL_law 1428 L S h = ex d mL_law 1429 L (.int 0 :: S) h := exs rfl
set_option maxRecDepth 100000 in
theorem L_law_1429_0 {d : Nat} {L : kL} {h : kH} : ex d mL_law 1429 L [.int 0] h = some (some (.int 0), h) := exr rfl
set_option maxRecDepth 100000 in
theorem L_law_1429_1 {d : Nat} {L : kL} {h : kH} : ex d mL_law 1429 L [.int 1] h = some (some (.int 1), h) := exr rfl
set_option maxRecDepth 100000 in
theorem L_law_1429 {d : Nat} {L : kL} {h : kH} {v : Int32} (hv : v = 0 ∨ v = 1) : ex d mL_law 1429 L [.int v] h = some (some (.int v), h) := by rcases hv with rfl | rfl <;> exact exr rfl
set_option maxRecDepth 100000 in
theorem L_law_1430 {d : Nat} {S : List Value} {h : kH} {a0 a2 a3 : Option Value} {x : Nat} : ex d mL_law 1430 [a0, some (.ref x), a2, a3] S h = ex d mL_law 1431 [a0, some (.ref x), a2, a3] (.ref x :: S) h := exs rfl
set_option maxRecDepth 100000 in
theorem L_law_1431 {d : Nat} {S : List Value} {h : kH} {a1 a2 a3 : Option Value} {x : Nat} : ex d mL_law 1431 [some (.ref x), a1, a2, a3] S h = ex d mL_law 1432 [some (.ref x), a1, a2, a3] (.ref x :: S) h := exs rfl
set_option maxRecDepth 100000 in
theorem L_law_1432 {d : Nat} {S : List Value} {h : kH} {a0 a1 a2 : Option Value} {x : Int32} : ex d mL_law 1432 [a0, a1, a2, some (.int x)] S h = ex d mL_law 1433 [a0, a1, a2, some (.int x)] (.int x :: S) h := exs rfl
set_option maxRecDepth 100000 in
theorem L_law_1433 {d : Nat} {L : kL} {S : List Value} {h : kH} : ex d mL_law 1433 L S h = ex d mL_law 1434 L (.int 1 :: S) h := exs rfl
set_option maxRecDepth 100000 in
theorem L_law_1434 {d : Nat} {L : kL} {S : List Value} {h : kH} {x y : Int32} : ex d mL_law 1434 L (.int y :: .int x :: S) h = ex d mL_law 1435 L (.int (x + y) :: S) h := exs rfl
set_option maxRecDepth 100000 in
theorem L_law_1435 {d : Nat} {L : kL} {S : List Value} {h : kH} {q : Nat} {i : Int32} : ex d mL_law 1435 L (.int i :: .ref q :: S) h = (kil h q i).bind fun v => ex d mL_law 1436 L (.int v :: S) h := exb (F := fun v => .int v :: S) (G := fun _ => h) rfl
set_option maxRecDepth 100000 in
theorem L_law_1436 {d : Nat} {S : List Value} {h : kH} {a1 a2 a3 : Option Value} {x : Nat} : ex d mL_law 1436 [some (.ref x), a1, a2, a3] S h = ex d mL_law 1437 [some (.ref x), a1, a2, a3] (.ref x :: S) h := exs rfl
set_option maxRecDepth 100000 in
theorem L_law_1437 {d : Nat} {S : List Value} {h : kH} {a0 a1 a2 : Option Value} {x : Int32} : ex d mL_law 1437 [a0, a1, a2, some (.int x)] S h = ex d mL_law 1438 [a0, a1, a2, some (.int x)] (.int x :: S) h := exs rfl
set_option maxRecDepth 100000 in
theorem L_law_1438 {d : Nat} {L : kL} {S : List Value} {h : kH} : ex d mL_law 1438 L S h = ex d mL_law 1439 L (.int 2 :: S) h := exs rfl
set_option maxRecDepth 100000 in
theorem L_law_1439 {d : Nat} {L : kL} {S : List Value} {h : kH} {x y : Int32} : ex d mL_law 1439 L (.int y :: .int x :: S) h = ex d mL_law 1440 L (.int (x + y) :: S) h := exs rfl
set_option maxRecDepth 100000 in
theorem L_law_1440 {d : Nat} {L : kL} {S : List Value} {h : kH} {q : Nat} {i : Int32} : ex d mL_law 1440 L (.int i :: .ref q :: S) h = (kil h q i).bind fun v => ex d mL_law 1441 L (.int v :: S) h := exb (F := fun v => .int v :: S) (G := fun _ => h) rfl
set_option maxRecDepth 100000 in
theorem L_law_1441 {d : Nat} {S : List Value} {h : kH} {a1 a2 a3 : Option Value} {x : Nat} : ex d mL_law 1441 [some (.ref x), a1, a2, a3] S h = ex d mL_law 1442 [some (.ref x), a1, a2, a3] (.ref x :: S) h := exs rfl
set_option maxRecDepth 100000 in
theorem L_law_1442 {d : Nat} {S : List Value} {h : kH} {a0 a1 a2 : Option Value} {x : Int32} : ex d mL_law 1442 [a0, a1, a2, some (.int x)] S h = ex d mL_law 1443 [a0, a1, a2, some (.int x)] (.int x :: S) h := exs rfl
set_option maxRecDepth 100000 in
theorem L_law_1443 {d : Nat} {L : kL} {S : List Value} {h : kH} : ex d mL_law 1443 L S h = ex d mL_law 1444 L (.int 3 :: S) h := exs rfl
set_option maxRecDepth 100000 in
theorem L_law_1444 {d : Nat} {L : kL} {S : List Value} {h : kH} {x y : Int32} : ex d mL_law 1444 L (.int y :: .int x :: S) h = ex d mL_law 1445 L (.int (x + y) :: S) h := exs rfl
set_option maxRecDepth 100000 in
theorem L_law_1445 {d : Nat} {L : kL} {S : List Value} {h : kH} {q : Nat} {i : Int32} : ex d mL_law 1445 L (.int i :: .ref q :: S) h = (kil h q i).bind fun v => ex d mL_law 1446 L (.int v :: S) h := exb (F := fun v => .int v :: S) (G := fun _ => h) rfl
set_option maxRecDepth 100000 in
theorem L_law_1446 {d : Nat} {S : List Value} {h : kH} {a1 a2 a3 : Option Value} {x : Nat} : ex d mL_law 1446 [some (.ref x), a1, a2, a3] S h = ex d mL_law 1447 [some (.ref x), a1, a2, a3] (.ref x :: S) h := exs rfl
set_option maxRecDepth 100000 in
theorem L_law_1447 {d : Nat} {S : List Value} {h : kH} {a0 a1 a2 : Option Value} {x : Int32} : ex d mL_law 1447 [a0, a1, a2, some (.int x)] S h = ex d mL_law 1448 [a0, a1, a2, some (.int x)] (.int x :: S) h := exs rfl
set_option maxRecDepth 100000 in
theorem L_law_1448 {d : Nat} {L : kL} {S : List Value} {h : kH} : ex d mL_law 1448 L S h = ex d mL_law 1449 L (.int 4 :: S) h := exs rfl
set_option maxRecDepth 100000 in
theorem L_law_1449 {d : Nat} {L : kL} {S : List Value} {h : kH} {x y : Int32} : ex d mL_law 1449 L (.int y :: .int x :: S) h = ex d mL_law 1450 L (.int (x + y) :: S) h := exs rfl
set_option maxRecDepth 100000 in
theorem L_law_1450 {d : Nat} {L : kL} {S : List Value} {h : kH} {q : Nat} {i : Int32} : ex d mL_law 1450 L (.int i :: .ref q :: S) h = (kil h q i).bind fun v => ex d mL_law 1451 L (.int v :: S) h := exb (F := fun v => .int v :: S) (G := fun _ => h) rfl
set_option maxRecDepth 100000 in
theorem L_law_1451 {d : Nat} {L : kL} {h : kH} {v0 : Int32} {v1 : Int32} {v2 : Int32} {v3 : Int32} {q : Nat} : ex d mL_law 1451 L [.int v3, .int v2, .int v1, .int v0, .ref q] h = if kis h 12 q = true then (rn d mX11_bestTurn [.ref q, .int v0, .int v1, .int v2, .int v3] h).bind fun r => ex d mL_law 1454 L (r.1.toList ++ []) r.2 else none := exv rfl (Nat.le_of_ble_eq_true rfl)
set_option maxRecDepth 100000 in
theorem L_law_1454 {d : Nat} {S : List Value} {h : kH} {a0 a1 a3 : Option Value} {x : Nat} : ex d mL_law 1454 [a0, a1, some (.ref x), a3] S h = ex d mL_law 1455 [a0, a1, some (.ref x), a3] (.ref x :: S) h := exs rfl
set_option maxRecDepth 100000 in
theorem L_law_1455 {d : Nat} {S : List Value} {h : kH} {a1 a2 a3 : Option Value} {x : Nat} : ex d mL_law 1455 [some (.ref x), a1, a2, a3] S h = ex d mL_law 1456 [some (.ref x), a1, a2, a3] (.ref x :: S) h := exs rfl
set_option maxRecDepth 100000 in
theorem L_law_1456 {d : Nat} {S : List Value} {h : kH} {a0 a1 a2 : Option Value} {x : Int32} : ex d mL_law 1456 [a0, a1, a2, some (.int x)] S h = ex d mL_law 1457 [a0, a1, a2, some (.int x)] (.int x :: S) h := exs rfl
set_option maxRecDepth 100000 in
theorem L_law_1457 {d : Nat} {L : kL} {S : List Value} {h : kH} : ex d mL_law 1457 L S h = ex d mL_law 1458 L (.int 1 :: S) h := exs rfl
set_option maxRecDepth 100000 in
theorem L_law_1458 {d : Nat} {L : kL} {S : List Value} {h : kH} {x y : Int32} : ex d mL_law 1458 L (.int y :: .int x :: S) h = ex d mL_law 1459 L (.int (x + y) :: S) h := exs rfl
set_option maxRecDepth 100000 in
theorem L_law_1459 {d : Nat} {L : kL} {S : List Value} {h : kH} {q : Nat} {i : Int32} : ex d mL_law 1459 L (.int i :: .ref q :: S) h = (kil h q i).bind fun v => ex d mL_law 1460 L (.int v :: S) h := exb (F := fun v => .int v :: S) (G := fun _ => h) rfl
set_option maxRecDepth 100000 in
theorem L_law_1460 {d : Nat} {S : List Value} {h : kH} {a1 a2 a3 : Option Value} {x : Nat} : ex d mL_law 1460 [some (.ref x), a1, a2, a3] S h = ex d mL_law 1461 [some (.ref x), a1, a2, a3] (.ref x :: S) h := exs rfl
set_option maxRecDepth 100000 in
theorem L_law_1461 {d : Nat} {S : List Value} {h : kH} {a0 a1 a2 : Option Value} {x : Int32} : ex d mL_law 1461 [a0, a1, a2, some (.int x)] S h = ex d mL_law 1462 [a0, a1, a2, some (.int x)] (.int x :: S) h := exs rfl
set_option maxRecDepth 100000 in
theorem L_law_1462 {d : Nat} {L : kL} {S : List Value} {h : kH} : ex d mL_law 1462 L S h = ex d mL_law 1463 L (.int 2 :: S) h := exs rfl
set_option maxRecDepth 100000 in
theorem L_law_1463 {d : Nat} {L : kL} {S : List Value} {h : kH} {x y : Int32} : ex d mL_law 1463 L (.int y :: .int x :: S) h = ex d mL_law 1464 L (.int (x + y) :: S) h := exs rfl
set_option maxRecDepth 100000 in
theorem L_law_1464 {d : Nat} {L : kL} {S : List Value} {h : kH} {q : Nat} {i : Int32} : ex d mL_law 1464 L (.int i :: .ref q :: S) h = (kil h q i).bind fun v => ex d mL_law 1465 L (.int v :: S) h := exb (F := fun v => .int v :: S) (G := fun _ => h) rfl
set_option maxRecDepth 100000 in
theorem L_law_1465 {d : Nat} {S : List Value} {h : kH} {a1 a2 a3 : Option Value} {x : Nat} : ex d mL_law 1465 [some (.ref x), a1, a2, a3] S h = ex d mL_law 1466 [some (.ref x), a1, a2, a3] (.ref x :: S) h := exs rfl
set_option maxRecDepth 100000 in
theorem L_law_1466 {d : Nat} {S : List Value} {h : kH} {a0 a1 a2 : Option Value} {x : Int32} : ex d mL_law 1466 [a0, a1, a2, some (.int x)] S h = ex d mL_law 1467 [a0, a1, a2, some (.int x)] (.int x :: S) h := exs rfl
set_option maxRecDepth 100000 in
theorem L_law_1467 {d : Nat} {L : kL} {S : List Value} {h : kH} : ex d mL_law 1467 L S h = ex d mL_law 1468 L (.int 3 :: S) h := exs rfl
set_option maxRecDepth 100000 in
theorem L_law_1468 {d : Nat} {L : kL} {S : List Value} {h : kH} {x y : Int32} : ex d mL_law 1468 L (.int y :: .int x :: S) h = ex d mL_law 1469 L (.int (x + y) :: S) h := exs rfl
set_option maxRecDepth 100000 in
theorem L_law_1469 {d : Nat} {L : kL} {S : List Value} {h : kH} {q : Nat} {i : Int32} : ex d mL_law 1469 L (.int i :: .ref q :: S) h = (kil h q i).bind fun v => ex d mL_law 1470 L (.int v :: S) h := exb (F := fun v => .int v :: S) (G := fun _ => h) rfl
set_option maxRecDepth 100000 in
theorem L_law_1470 {d : Nat} {S : List Value} {h : kH} {a1 a2 a3 : Option Value} {x : Nat} : ex d mL_law 1470 [some (.ref x), a1, a2, a3] S h = ex d mL_law 1471 [some (.ref x), a1, a2, a3] (.ref x :: S) h := exs rfl
set_option maxRecDepth 100000 in
theorem L_law_1471 {d : Nat} {S : List Value} {h : kH} {a0 a1 a2 : Option Value} {x : Int32} : ex d mL_law 1471 [a0, a1, a2, some (.int x)] S h = ex d mL_law 1472 [a0, a1, a2, some (.int x)] (.int x :: S) h := exs rfl
set_option maxRecDepth 100000 in
theorem L_law_1472 {d : Nat} {L : kL} {S : List Value} {h : kH} : ex d mL_law 1472 L S h = ex d mL_law 1473 L (.int 4 :: S) h := exs rfl
set_option maxRecDepth 100000 in
theorem L_law_1473 {d : Nat} {L : kL} {S : List Value} {h : kH} {x y : Int32} : ex d mL_law 1473 L (.int y :: .int x :: S) h = ex d mL_law 1474 L (.int (x + y) :: S) h := exs rfl
set_option maxRecDepth 100000 in
theorem L_law_1474 {d : Nat} {L : kL} {S : List Value} {h : kH} {q : Nat} {i : Int32} : ex d mL_law 1474 L (.int i :: .ref q :: S) h = (kil h q i).bind fun v => ex d mL_law 1475 L (.int v :: S) h := exb (F := fun v => .int v :: S) (G := fun _ => h) rfl
set_option maxRecDepth 100000 in
theorem L_law_1475 {d : Nat} {L : kL} {h : kH} {v0 : Int32} {v1 : Int32} {v2 : Int32} {v3 : Int32} {r0 : Int32} {q : Nat} : ex d mL_law 1475 L [.int v3, .int v2, .int v1, .int v0, .ref q, .int r0] h = if kis h 13 q = true then (rn d mX12_bestTurn [.ref q, .int v0, .int v1, .int v2, .int v3] h).bind fun r => ex d mL_law 1478 L (r.1.toList ++ [.int r0]) r.2 else none := exv rfl (Nat.le_of_ble_eq_true rfl)
set_option maxRecDepth 100000 in
theorem L_law_1478 {d : Nat} {L : kL} {S : List Value} {h : kH} {x y : Int32} : ex d mL_law 1478 L (.int y :: .int x :: S) h = if x = y then ex d mL_law 1506 L S h else ex d mL_law 1481 L S h := exc rfl
set_option maxRecDepth 100000 in
theorem L_law_1481 {d : Nat} {L : kL} {S : List Value} {h : kH} : ex d mL_law 1481 L S h = ex d mL_law 1482 L (.int 0 :: S) h := exs rfl
set_option maxRecDepth 100000 in
theorem L_law_1482_0 {d : Nat} {L : kL} {h : kH} : ex d mL_law 1482 L [.int 0] h = some (some (.int 0), h) := exr rfl
set_option maxRecDepth 100000 in
theorem L_law_1482_1 {d : Nat} {L : kL} {h : kH} : ex d mL_law 1482 L [.int 1] h = some (some (.int 1), h) := exr rfl
set_option maxRecDepth 100000 in
theorem L_law_1482 {d : Nat} {L : kL} {h : kH} {v : Int32} (hv : v = 0 ∨ v = 1) : ex d mL_law 1482 L [.int v] h = some (some (.int v), h) := by rcases hv with rfl | rfl <;> exact exr rfl
set_option maxRecDepth 100000 in
theorem L_law_1483 {d : Nat} {S : List Value} {h : kH} {a0 a2 a3 : Option Value} {x : Nat} : ex d mL_law 1483 [a0, some (.ref x), a2, a3] S h = ex d mL_law 1484 [a0, some (.ref x), a2, a3] (.ref x :: S) h := exs rfl
set_option maxRecDepth 100000 in
theorem L_law_1484 {d : Nat} {S : List Value} {h : kH} {a1 a2 a3 : Option Value} {x : Nat} : ex d mL_law 1484 [some (.ref x), a1, a2, a3] S h = ex d mL_law 1485 [some (.ref x), a1, a2, a3] (.ref x :: S) h := exs rfl
set_option maxRecDepth 100000 in
theorem L_law_1485 {d : Nat} {S : List Value} {h : kH} {a0 a1 a2 : Option Value} {x : Int32} : ex d mL_law 1485 [a0, a1, a2, some (.int x)] S h = ex d mL_law 1486 [a0, a1, a2, some (.int x)] (.int x :: S) h := exs rfl
set_option maxRecDepth 100000 in
theorem L_law_1486 {d : Nat} {L : kL} {S : List Value} {h : kH} : ex d mL_law 1486 L S h = ex d mL_law 1487 L (.int 1 :: S) h := exs rfl
set_option maxRecDepth 100000 in
theorem L_law_1487 {d : Nat} {L : kL} {S : List Value} {h : kH} {x y : Int32} : ex d mL_law 1487 L (.int y :: .int x :: S) h = ex d mL_law 1488 L (.int (x + y) :: S) h := exs rfl
set_option maxRecDepth 100000 in
theorem L_law_1488 {d : Nat} {L : kL} {S : List Value} {h : kH} {q : Nat} {i : Int32} : ex d mL_law 1488 L (.int i :: .ref q :: S) h = (kil h q i).bind fun v => ex d mL_law 1489 L (.int v :: S) h := exb (F := fun v => .int v :: S) (G := fun _ => h) rfl
set_option maxRecDepth 100000 in
theorem L_law_1489 {d : Nat} {L : kL} {h : kH} {v0 : Int32} {q : Nat} : ex d mL_law 1489 L [.int v0, .ref q] h = if kis h 12 q = true then (rn d mX11_check [.ref q, .int v0] h).bind fun r => ex d mL_law 1492 L (r.1.toList ++ []) r.2 else none := exv rfl (Nat.le_of_ble_eq_true rfl)
set_option maxRecDepth 100000 in
theorem L_law_1492 {d : Nat} {S : List Value} {h : kH} {a0 a1 a3 : Option Value} {x : Nat} : ex d mL_law 1492 [a0, a1, some (.ref x), a3] S h = ex d mL_law 1493 [a0, a1, some (.ref x), a3] (.ref x :: S) h := exs rfl
set_option maxRecDepth 100000 in
theorem L_law_1493 {d : Nat} {S : List Value} {h : kH} {a1 a2 a3 : Option Value} {x : Nat} : ex d mL_law 1493 [some (.ref x), a1, a2, a3] S h = ex d mL_law 1494 [some (.ref x), a1, a2, a3] (.ref x :: S) h := exs rfl
set_option maxRecDepth 100000 in
theorem L_law_1494 {d : Nat} {S : List Value} {h : kH} {a0 a1 a2 : Option Value} {x : Int32} : ex d mL_law 1494 [a0, a1, a2, some (.int x)] S h = ex d mL_law 1495 [a0, a1, a2, some (.int x)] (.int x :: S) h := exs rfl
set_option maxRecDepth 100000 in
theorem L_law_1495 {d : Nat} {L : kL} {S : List Value} {h : kH} : ex d mL_law 1495 L S h = ex d mL_law 1496 L (.int 1 :: S) h := exs rfl
set_option maxRecDepth 100000 in
theorem L_law_1496 {d : Nat} {L : kL} {S : List Value} {h : kH} {x y : Int32} : ex d mL_law 1496 L (.int y :: .int x :: S) h = ex d mL_law 1497 L (.int (x + y) :: S) h := exs rfl
set_option maxRecDepth 100000 in
theorem L_law_1497 {d : Nat} {L : kL} {S : List Value} {h : kH} {q : Nat} {i : Int32} : ex d mL_law 1497 L (.int i :: .ref q :: S) h = (kil h q i).bind fun v => ex d mL_law 1498 L (.int v :: S) h := exb (F := fun v => .int v :: S) (G := fun _ => h) rfl
set_option maxRecDepth 100000 in
theorem L_law_1498 {d : Nat} {L : kL} {h : kH} {v0 : Int32} {r0 : Int32} {q : Nat} : ex d mL_law 1498 L [.int v0, .ref q, .int r0] h = if kis h 13 q = true then (rn d mX12_check [.ref q, .int v0] h).bind fun r => ex d mL_law 1501 L (r.1.toList ++ [.int r0]) r.2 else none := exv rfl (Nat.le_of_ble_eq_true rfl)
set_option maxRecDepth 100000 in
theorem L_law_1501 {d : Nat} {L : kL} {S : List Value} {h : kH} {x y : Int32} : ex d mL_law 1501 L (.int y :: .int x :: S) h = if x = y then ex d mL_law 1506 L S h else ex d mL_law 1504 L S h := exc rfl
set_option maxRecDepth 100000 in
theorem L_law_1504 {d : Nat} {L : kL} {S : List Value} {h : kH} : ex d mL_law 1504 L S h = ex d mL_law 1505 L (.int 0 :: S) h := exs rfl
set_option maxRecDepth 100000 in
theorem L_law_1505_0 {d : Nat} {L : kL} {h : kH} : ex d mL_law 1505 L [.int 0] h = some (some (.int 0), h) := exr rfl
set_option maxRecDepth 100000 in
theorem L_law_1505_1 {d : Nat} {L : kL} {h : kH} : ex d mL_law 1505 L [.int 1] h = some (some (.int 1), h) := exr rfl
set_option maxRecDepth 100000 in
theorem L_law_1505 {d : Nat} {L : kL} {h : kH} {v : Int32} (hv : v = 0 ∨ v = 1) : ex d mL_law 1505 L [.int v] h = some (some (.int v), h) := by rcases hv with rfl | rfl <;> exact exr rfl
set_option maxRecDepth 100000 in
theorem L_law_1506 {d : Nat} {S : List Value} {h : kH} {a0 a1 a2 : Option Value} {x : Int32} : ex d mL_law 1506 [a0, a1, a2, some (.int x)] S h = ex d mL_law 1509 [a0, a1, kkl a2, some (.int (x + 6))] S h := exs rfl
set_option maxRecDepth 100000 in
theorem L_law_1509 {d : Nat} {L : kL} {S : List Value} {h : kH} : ex d mL_law 1509 L S h = ex d mL_law 18 L S h := exs rfl
set_option maxRecDepth 100000 in
theorem L_law_1512 {d : Nat} {L : kL} {S : List Value} {h : kH} : ex d mL_law 1512 L S h = ex d mL_law 1513 L (.int 1 :: S) h := exs rfl
set_option maxRecDepth 100000 in
theorem L_law_1513_0 {d : Nat} {L : kL} {h : kH} : ex d mL_law 1513 L [.int 0] h = some (some (.int 0), h) := exr rfl
set_option maxRecDepth 100000 in
theorem L_law_1513_1 {d : Nat} {L : kL} {h : kH} : ex d mL_law 1513 L [.int 1] h = some (some (.int 1), h) := exr rfl
set_option maxRecDepth 100000 in
theorem L_law_1513 {d : Nat} {L : kL} {h : kH} {v : Int32} (hv : v = 0 ∨ v = 1) : ex d mL_law 1513 L [.int v] h = some (some (.int v), h) := by rcases hv with rfl | rfl <;> exact exr rfl
theorem L_law_24b {d : Nat} {L : kL} {S : List Value} {h : kH} {x y : Int32} : ex d mL_law 24 L (.int y :: .int x :: S) h = exLt y x d mL_law 1512 27 L S h := L_law_24
theorem L_law_33b {d : Nat} {L : kL} {S : List Value} {h : kH} {x : Int32} : ex d mL_law 33 L (.int x :: S) h = exSw x 1506 d mL_law L S h [(0, 200), (1, 263), (2, 306), (3, 329), (4, 352), (5, 376), (6, 399), (7, 422), (8, 455), (9, 478), (10, 501), (11, 534), (12, 568), (13, 601), (14, 614), (15, 637), (16, 670), (17, 703), (18, 746), (19, 789), (20, 822), (21, 855), (22, 888), (23, 931), (24, 984), (25, 1017), (26, 1060), (27, 1093), (28, 1136), (29, 1159), (30, 1182), (31, 1215), (32, 1248), (33, 1281), (34, 1334), (35, 1367), (36, 1430), (37, 1483)] := L_law_33
theorem L_law_258b {d : Nat} {L : kL} {S : List Value} {h : kH} {x y : Int32} : ex d mL_law 258 L (.int y :: .int x :: S) h = exEq x y d mL_law 1506 261 L S h := L_law_258
theorem L_law_301b {d : Nat} {L : kL} {S : List Value} {h : kH} {x y : Int32} : ex d mL_law 301 L (.int y :: .int x :: S) h = exEq x y d mL_law 1506 304 L S h := L_law_301
theorem L_law_324b {d : Nat} {L : kL} {S : List Value} {h : kH} {x y : Int32} : ex d mL_law 324 L (.int y :: .int x :: S) h = exEq x y d mL_law 1506 327 L S h := L_law_324
theorem L_law_347b {d : Nat} {L : kL} {S : List Value} {h : kH} {x y : Int32} : ex d mL_law 347 L (.int y :: .int x :: S) h = exEq x y d mL_law 1506 350 L S h := L_law_347
theorem L_law_371b {d : Nat} {L : kL} {S : List Value} {h : kH} {x : Int32} : ex d mL_law 371 L (.int x :: S) h = exEq x (nI 0) d mL_law 1506 374 L S h := L_law_371
theorem L_law_394b {d : Nat} {L : kL} {S : List Value} {h : kH} {x y : Int32} : ex d mL_law 394 L (.int y :: .int x :: S) h = exEq x y d mL_law 1506 397 L S h := L_law_394
theorem L_law_417b {d : Nat} {L : kL} {S : List Value} {h : kH} {x y : Int32} : ex d mL_law 417 L (.int y :: .int x :: S) h = exEq x y d mL_law 1506 420 L S h := L_law_417
theorem L_law_450b {d : Nat} {L : kL} {S : List Value} {h : kH} {x y : Int32} : ex d mL_law 450 L (.int y :: .int x :: S) h = exEq x y d mL_law 1506 453 L S h := L_law_450
theorem L_law_473b {d : Nat} {L : kL} {S : List Value} {h : kH} {x y : Int32} : ex d mL_law 473 L (.int y :: .int x :: S) h = exEq x y d mL_law 1506 476 L S h := L_law_473
theorem L_law_496b {d : Nat} {L : kL} {S : List Value} {h : kH} {x y : Int32} : ex d mL_law 496 L (.int y :: .int x :: S) h = exEq x y d mL_law 1506 499 L S h := L_law_496
theorem L_law_529b {d : Nat} {L : kL} {S : List Value} {h : kH} {x y : Int32} : ex d mL_law 529 L (.int y :: .int x :: S) h = exEq x y d mL_law 1506 532 L S h := L_law_529
theorem L_law_563b {d : Nat} {L : kL} {S : List Value} {h : kH} {x : Int32} : ex d mL_law 563 L (.int x :: S) h = exEq x (nI 0) d mL_law 1506 566 L S h := L_law_563
theorem L_law_596b {d : Nat} {L : kL} {S : List Value} {h : kH} {x y : Int32} : ex d mL_law 596 L (.int y :: .int x :: S) h = exEq x y d mL_law 1506 599 L S h := L_law_596
theorem L_law_609b {d : Nat} {L : kL} {S : List Value} {h : kH} {x y : Int32} : ex d mL_law 609 L (.int y :: .int x :: S) h = exEq x y d mL_law 1506 612 L S h := L_law_609
theorem L_law_632b {d : Nat} {L : kL} {S : List Value} {h : kH} {x y : Int32} : ex d mL_law 632 L (.int y :: .int x :: S) h = exEq x y d mL_law 1506 635 L S h := L_law_632
theorem L_law_665b {d : Nat} {L : kL} {S : List Value} {h : kH} {x y : Int32} : ex d mL_law 665 L (.int y :: .int x :: S) h = exEq x y d mL_law 1506 668 L S h := L_law_665
theorem L_law_698b {d : Nat} {L : kL} {S : List Value} {h : kH} {x y : Int32} : ex d mL_law 698 L (.int y :: .int x :: S) h = exEq x y d mL_law 1506 701 L S h := L_law_698
theorem L_law_741b {d : Nat} {L : kL} {S : List Value} {h : kH} {x y : Int32} : ex d mL_law 741 L (.int y :: .int x :: S) h = exEq x y d mL_law 1506 744 L S h := L_law_741
theorem L_law_784b {d : Nat} {L : kL} {S : List Value} {h : kH} {x y : Int32} : ex d mL_law 784 L (.int y :: .int x :: S) h = exEq x y d mL_law 1506 787 L S h := L_law_784
theorem L_law_817b {d : Nat} {L : kL} {S : List Value} {h : kH} {x y : Int32} : ex d mL_law 817 L (.int y :: .int x :: S) h = exEq x y d mL_law 1506 820 L S h := L_law_817
theorem L_law_850b {d : Nat} {L : kL} {S : List Value} {h : kH} {x y : Int32} : ex d mL_law 850 L (.int y :: .int x :: S) h = exEq x y d mL_law 1506 853 L S h := L_law_850
theorem L_law_883b {d : Nat} {L : kL} {S : List Value} {h : kH} {x y : Int32} : ex d mL_law 883 L (.int y :: .int x :: S) h = exEq x y d mL_law 1506 886 L S h := L_law_883
theorem L_law_926b {d : Nat} {L : kL} {S : List Value} {h : kH} {x y : Int32} : ex d mL_law 926 L (.int y :: .int x :: S) h = exEq x y d mL_law 1506 929 L S h := L_law_926
theorem L_law_979b {d : Nat} {L : kL} {S : List Value} {h : kH} {x y : Int32} : ex d mL_law 979 L (.int y :: .int x :: S) h = exEq x y d mL_law 1506 982 L S h := L_law_979
theorem L_law_1012b {d : Nat} {L : kL} {S : List Value} {h : kH} {x y : Int32} : ex d mL_law 1012 L (.int y :: .int x :: S) h = exEq x y d mL_law 1506 1015 L S h := L_law_1012
theorem L_law_1055b {d : Nat} {L : kL} {S : List Value} {h : kH} {x y : Int32} : ex d mL_law 1055 L (.int y :: .int x :: S) h = exEq x y d mL_law 1506 1058 L S h := L_law_1055
theorem L_law_1088b {d : Nat} {L : kL} {S : List Value} {h : kH} {x y : Int32} : ex d mL_law 1088 L (.int y :: .int x :: S) h = exEq x y d mL_law 1506 1091 L S h := L_law_1088
theorem L_law_1131b {d : Nat} {L : kL} {S : List Value} {h : kH} {x y : Int32} : ex d mL_law 1131 L (.int y :: .int x :: S) h = exEq x y d mL_law 1506 1134 L S h := L_law_1131
theorem L_law_1154b {d : Nat} {L : kL} {S : List Value} {h : kH} {x y : Int32} : ex d mL_law 1154 L (.int y :: .int x :: S) h = exEq x y d mL_law 1506 1157 L S h := L_law_1154
theorem L_law_1177b {d : Nat} {L : kL} {S : List Value} {h : kH} {x y : Int32} : ex d mL_law 1177 L (.int y :: .int x :: S) h = exEq x y d mL_law 1506 1180 L S h := L_law_1177
theorem L_law_1210b {d : Nat} {L : kL} {S : List Value} {h : kH} {x y : Int32} : ex d mL_law 1210 L (.int y :: .int x :: S) h = exEq x y d mL_law 1506 1213 L S h := L_law_1210
theorem L_law_1243b {d : Nat} {L : kL} {S : List Value} {h : kH} {x y : Int32} : ex d mL_law 1243 L (.int y :: .int x :: S) h = exEq x y d mL_law 1506 1246 L S h := L_law_1243
theorem L_law_1276b {d : Nat} {L : kL} {S : List Value} {h : kH} {x y : Int32} : ex d mL_law 1276 L (.int y :: .int x :: S) h = exEq x y d mL_law 1506 1279 L S h := L_law_1276
theorem L_law_1329b {d : Nat} {L : kL} {S : List Value} {h : kH} {x y : Int32} : ex d mL_law 1329 L (.int y :: .int x :: S) h = exEq x y d mL_law 1506 1332 L S h := L_law_1329
theorem L_law_1362b {d : Nat} {L : kL} {S : List Value} {h : kH} {x y : Int32} : ex d mL_law 1362 L (.int y :: .int x :: S) h = exEq x y d mL_law 1506 1365 L S h := L_law_1362
theorem L_law_1425b {d : Nat} {L : kL} {S : List Value} {h : kH} {x y : Int32} : ex d mL_law 1425 L (.int y :: .int x :: S) h = exEq x y d mL_law 1506 1428 L S h := L_law_1425
theorem L_law_1478b {d : Nat} {L : kL} {S : List Value} {h : kH} {x y : Int32} : ex d mL_law 1478 L (.int y :: .int x :: S) h = exEq x y d mL_law 1506 1481 L S h := L_law_1478
theorem L_law_1501b {d : Nat} {L : kL} {S : List Value} {h : kH} {x y : Int32} : ex d mL_law 1501 L (.int y :: .int x :: S) h = exEq x y d mL_law 1506 1504 L S h := L_law_1501
