/-! OWN: both makers, whole; the memory at the start of the law -/
theorem lp33 {R c : List kE} {e : kE} (h : 32 < R.length) : (R.set 32 e ++ c)[32]? = some e := by
  rw [List.getElem?_append_left (by rw [List.length_set]; exact h), List.getElem?_set_self h]
def fk0 : List Value := kdef 12
theorem fk0_l : fk0.length = 18 := rfl
def Rk0 : List kE := []
theorem Rk0_l : Rk0.length = 0 := rfl
theorem mk_0 {d : Nat} {b : Nat → Option kE} : ex (d + 2) mX11_init 0 [some (.ref 32), none] [] (hq b [] ((.inr (12, fk0)) :: Rk0) 18) = ex (d + 2) mX11_init 4 [some (.ref 32), none] [] (hq b [] ((.inr (12, fk0)) :: Rk0) 18) := st_0 (C := []) (fs := fk0) (R := Rk0) (s := 18)
def fk1 : List Value := fk0.set 0 (.ref 33)
theorem fk1_l : fk1.length = 18 := by unfold fk1; rw [List.length_set]; exact fk0_l
def Rk1 : List kE := Rk0 ++ cX9 33
theorem Rk1_l : Rk1.length = 4 := by unfold Rk1; rw [List.length_append, Rk0_l]; rfl
theorem mk_1 {d : Nat} {b : Nat → Option kE} : ex (d + 2) mX11_init 4 [some (.ref 32), none] [] (hq b [] ((.inr (12, fk0)) :: Rk0) 18) = ex (d + 2) mX11_init 15 [some (.ref 32), none] [] (hq b [] ((.inr (12, fk1)) :: Rk1) 271) := st_4 (C := []) (fs := fk0) (R := Rk0) (s := 18) (n := 1) fk0_l (by rw [Rk0_l])
def fk2 : List Value := fk1.set 1 (.ref 37)
theorem fk2_l : fk2.length = 18 := by unfold fk2; rw [List.length_set]; exact fk1_l
def Rk2 : List kE := Rk1 ++ cX7 37
theorem Rk2_l : Rk2.length = 18 := by unfold Rk2; rw [List.length_append, Rk1_l]; rfl
theorem mk_2 {d : Nat} {b : Nat → Option kE} : ex (d + 2) mX11_init 15 [some (.ref 32), none] [] (hq b [] ((.inr (12, fk1)) :: Rk1) 271) = ex (d + 2) mX11_init 26 [some (.ref 32), none] [] (hq b [] ((.inr (12, fk2)) :: Rk2) 957) := st_15 (C := []) (fs := fk1) (R := Rk1) (s := 271) (n := 5) fk1_l (by rw [Rk1_l])
def fk3 : List Value := fk2.set 2 (.ref 51)
theorem fk3_l : fk3.length = 18 := by unfold fk3; rw [List.length_set]; exact fk2_l
def Rk3 : List kE := Rk2 ++ cX7 51
theorem Rk3_l : Rk3.length = 32 := by unfold Rk3; rw [List.length_append, Rk2_l]; rfl
theorem mk_3 {d : Nat} {b : Nat → Option kE} : ex (d + 2) mX11_init 26 [some (.ref 32), none] [] (hq b [] ((.inr (12, fk2)) :: Rk2) 957) = ex (d + 2) mX11_init 37 [some (.ref 32), none] [] (hq b [] ((.inr (12, fk3)) :: Rk3) 1643) := st_26 (C := []) (fs := fk2) (R := Rk2) (s := 957) (n := 19) fk2_l (by rw [Rk2_l])
def fk4 : List Value := fk3.set 3 (.ref 65)
theorem fk4_l : fk4.length = 18 := by unfold fk4; rw [List.length_set]; exact fk3_l
def Rk4 : List kE := Rk3 ++ [(.inl (.object "KnockFinder$State", 8, .inr (.inr (.inr (.inr fun j => if j < 8 then none else some 0)))))]
theorem Rk4_l : Rk4.length = 33 := by unfold Rk4; rw [List.length_append, Rk3_l]; rfl
theorem Rk4_3 : Rk4[32]? = some (.inl (.object "KnockFinder$State", 8, .inr (.inr (.inr (.inr fun j => if j < 8 then none else some 0))))) := by unfold Rk4; rw [List.getElem?_append_right (by rw [Rk3_l]; exact Nat.le_refl _), Rk3_l]; rfl
theorem mk_4 {d : Nat} {b : Nat → Option kE} : ex (d + 2) mX11_init 37 [some (.ref 32), none] [] (hq b [] ((.inr (12, fk3)) :: Rk3) 1643) = ex (d + 2) mX11_init 46 [some (.ref 32), none] [] (hq b [] ((.inr (12, fk4)) :: Rk4) 1651) := st_37 (C := []) (fs := fk3) (R := Rk3) (s := 1643) (n := 33) fk3_l (by rw [Rk3_l])
def fk5 : List Value := fk4.set 4 (.int 0)
theorem fk5_l : fk5.length = 18 := by unfold fk5; rw [List.length_set]; exact fk4_l
theorem mk_5 {d : Nat} {b : Nat → Option kE} : ex (d + 2) mX11_init 46 [some (.ref 32), none] [] (hq b [] ((.inr (12, fk4)) :: Rk4) 1651) = ex (d + 2) mX11_init 51 [some (.ref 32), none] [] (hq b [] ((.inr (12, fk5)) :: Rk4) 1651) := st_46 (C := []) (fs := fk4) (R := Rk4) (s := 1651) fk4_l
def fk6 : List Value := fk5.set 5 (.int 0)
theorem fk6_l : fk6.length = 18 := by unfold fk6; rw [List.length_set]; exact fk5_l
theorem mk_6 {d : Nat} {b : Nat → Option kE} : ex (d + 2) mX11_init 51 [some (.ref 32), none] [] (hq b [] ((.inr (12, fk5)) :: Rk4) 1651) = ex (d + 2) mX11_init 56 [some (.ref 32), none] [] (hq b [] ((.inr (12, fk6)) :: Rk4) 1651) := st_51 (C := []) (fs := fk5) (R := Rk4) (s := 1651) fk5_l
def fk7 : List Value := fk6.set 6 (.ref 66)
theorem fk7_l : fk7.length = 18 := by unfold fk7; rw [List.length_set]; exact fk6_l
def Rk5 : List kE := Rk4 ++ cX2 66
theorem Rk5_l : Rk5.length = 36 := by unfold Rk5; rw [List.length_append, Rk4_l]; rfl
theorem Rk5_3 : Rk5[32]? = some (.inl (.object "KnockFinder$State", 8, .inr (.inr (.inr (.inr fun j => if j < 8 then none else some 0))))) := by unfold Rk5; rw [List.getElem?_append_left (by rw [Rk4_l]; decide)]; exact Rk4_3
theorem mk_7 {d : Nat} {b : Nat → Option kE} : ex (d + 2) mX11_init 56 [some (.ref 32), none] [] (hq b [] ((.inr (12, fk6)) :: Rk4) 1651) = ex (d + 2) mX11_init 67 [some (.ref 32), none] [] (hq b [] ((.inr (12, fk7)) :: Rk5) 2054) := st_56 (C := []) (fs := fk6) (R := Rk4) (s := 1651) (n := 34) fk6_l (by rw [Rk4_l])
def fk8 : List Value := fk7.set 7 (.ref 69)
theorem fk8_l : fk8.length = 18 := by unfold fk8; rw [List.length_set]; exact fk7_l
def Rk6 : List kE := Rk5 ++ cX2 69
theorem Rk6_l : Rk6.length = 39 := by unfold Rk6; rw [List.length_append, Rk5_l]; rfl
theorem Rk6_3 : Rk6[32]? = some (.inl (.object "KnockFinder$State", 8, .inr (.inr (.inr (.inr fun j => if j < 8 then none else some 0))))) := by unfold Rk6; rw [List.getElem?_append_left (by rw [Rk5_l]; decide)]; exact Rk5_3
theorem mk_8 {d : Nat} {b : Nat → Option kE} : ex (d + 2) mX11_init 67 [some (.ref 32), none] [] (hq b [] ((.inr (12, fk7)) :: Rk5) 2054) = ex (d + 2) mX11_init 78 [some (.ref 32), none] [] (hq b [] ((.inr (12, fk8)) :: Rk6) 2457) := st_67 (C := []) (fs := fk7) (R := Rk5) (s := 2054) (n := 37) fk7_l (by rw [Rk5_l])
def fk9 : List Value := fk8.set 8 (.ref 72)
theorem fk9_l : fk9.length = 18 := by unfold fk9; rw [List.length_set]; exact fk8_l
def Rk7 : List kE := Rk6 ++ cX5 72
theorem Rk7_l : Rk7.length = 40 := by unfold Rk7; rw [List.length_append, Rk6_l]; rfl
theorem Rk7_3 : Rk7[32]? = some (.inl (.object "KnockFinder$State", 8, .inr (.inr (.inr (.inr fun j => if j < 8 then none else some 0))))) := by unfold Rk7; rw [List.getElem?_append_left (by rw [Rk6_l]; decide)]; exact Rk6_3
theorem mk_9 {d : Nat} {b : Nat → Option kE} : ex (d + 2) mX11_init 78 [some (.ref 32), none] [] (hq b [] ((.inr (12, fk8)) :: Rk6) 2457) = ex (d + 2) mX11_init 89 [some (.ref 32), none] [] (hq b [] ((.inr (12, fk9)) :: Rk7) 2459) := st_78 (C := []) (fs := fk8) (R := Rk6) (s := 2457) (n := 40) fk8_l (by rw [Rk6_l])
def fk10 : List Value := fk9.set 9 (.ref 73)
theorem fk10_l : fk10.length = 18 := by unfold fk10; rw [List.length_set]; exact fk9_l
def Rk8 : List kE := Rk7 ++ cX5 73
theorem Rk8_l : Rk8.length = 41 := by unfold Rk8; rw [List.length_append, Rk7_l]; rfl
theorem Rk8_3 : Rk8[32]? = some (.inl (.object "KnockFinder$State", 8, .inr (.inr (.inr (.inr fun j => if j < 8 then none else some 0))))) := by unfold Rk8; rw [List.getElem?_append_left (by rw [Rk7_l]; decide)]; exact Rk7_3
theorem mk_10 {d : Nat} {b : Nat → Option kE} : ex (d + 2) mX11_init 89 [some (.ref 32), none] [] (hq b [] ((.inr (12, fk9)) :: Rk7) 2459) = ex (d + 2) mX11_init 100 [some (.ref 32), none] [] (hq b [] ((.inr (12, fk10)) :: Rk8) 2461) := st_89 (C := []) (fs := fk9) (R := Rk7) (s := 2459) (n := 41) fk9_l (by rw [Rk7_l])
def fk11 : List Value := fk10.set 10 (.ref 74)
theorem fk11_l : fk11.length = 18 := by unfold fk11; rw [List.length_set]; exact fk10_l
def Rk9 : List kE := Rk8 ++ cX1 74
theorem Rk9_l : Rk9.length = 47 := by unfold Rk9; rw [List.length_append, Rk8_l]; rfl
theorem Rk9_3 : Rk9[32]? = some (.inl (.object "KnockFinder$State", 8, .inr (.inr (.inr (.inr fun j => if j < 8 then none else some 0))))) := by unfold Rk9; rw [List.getElem?_append_left (by rw [Rk8_l]; decide)]; exact Rk8_3
theorem mk_11 {d : Nat} {b : Nat → Option kE} : ex (d + 2) mX11_init 100 [some (.ref 32), none] [] (hq b [] ((.inr (12, fk10)) :: Rk8) 2461) = ex (d + 2) mX11_init 111 [some (.ref 32), none] [] (hq b [] ((.inr (12, fk11)) :: Rk9) 3475) := st_100 (C := []) (fs := fk10) (R := Rk8) (s := 2461) (n := 42) fk10_l (by rw [Rk8_l])
def fk12 : List Value := fk11.set 11 (.ref 80)
theorem fk12_l : fk12.length = 18 := by unfold fk12; rw [List.length_set]; exact fk11_l
def Rk10 : List kE := Rk9 ++ cX0 80
theorem Rk10_l : Rk10.length = 52 := by unfold Rk10; rw [List.length_append, Rk9_l]; rfl
theorem Rk10_3 : Rk10[32]? = some (.inl (.object "KnockFinder$State", 8, .inr (.inr (.inr (.inr fun j => if j < 8 then none else some 0))))) := by unfold Rk10; rw [List.getElem?_append_left (by rw [Rk9_l]; decide)]; exact Rk9_3
theorem mk_12 {d : Nat} {b : Nat → Option kE} : ex (d + 2) mX11_init 111 [some (.ref 32), none] [] (hq b [] ((.inr (12, fk11)) :: Rk9) 3475) = ex (d + 2) mX11_init 122 [some (.ref 32), none] [] (hq b [] ((.inr (12, fk12)) :: Rk10) 4280) := st_111 (C := []) (fs := fk11) (R := Rk9) (s := 3475) (n := 48) fk11_l (by rw [Rk9_l])
def fk13 : List Value := fk12.set 12 (.ref 85)
theorem fk13_l : fk13.length = 18 := by unfold fk13; rw [List.length_set]; exact fk12_l
def Rk11 : List kE := Rk10 ++ cX3 85
theorem Rk11_l : Rk11.length = 55 := by unfold Rk11; rw [List.length_append, Rk10_l]; rfl
theorem Rk11_3 : Rk11[32]? = some (.inl (.object "KnockFinder$State", 8, .inr (.inr (.inr (.inr fun j => if j < 8 then none else some 0))))) := by unfold Rk11; rw [List.getElem?_append_left (by rw [Rk10_l]; decide)]; exact Rk10_3
theorem mk_13 {d : Nat} {b : Nat → Option kE} : ex (d + 2) mX11_init 122 [some (.ref 32), none] [] (hq b [] ((.inr (12, fk12)) :: Rk10) 4280) = ex (d + 2) mX11_init 133 [some (.ref 32), none] [] (hq b [] ((.inr (12, fk13)) :: Rk11) 5286) := st_122 (C := []) (fs := fk12) (R := Rk10) (s := 4280) (n := 53) fk12_l (by rw [Rk10_l])
def fk14 : List Value := fk13.set 13 (.ref 88)
theorem fk14_l : fk14.length = 18 := by unfold fk14; rw [List.length_set]; exact fk13_l
def Rk12 : List kE := Rk11 ++ cX3 88
theorem Rk12_l : Rk12.length = 58 := by unfold Rk12; rw [List.length_append, Rk11_l]; rfl
theorem Rk12_3 : Rk12[32]? = some (.inl (.object "KnockFinder$State", 8, .inr (.inr (.inr (.inr fun j => if j < 8 then none else some 0))))) := by unfold Rk12; rw [List.getElem?_append_left (by rw [Rk11_l]; decide)]; exact Rk11_3
theorem mk_14 {d : Nat} {b : Nat → Option kE} : ex (d + 2) mX11_init 133 [some (.ref 32), none] [] (hq b [] ((.inr (12, fk13)) :: Rk11) 5286) = ex (d + 2) mX11_init 144 [some (.ref 32), none] [] (hq b [] ((.inr (12, fk14)) :: Rk12) 6292) := st_133 (C := []) (fs := fk13) (R := Rk11) (s := 5286) (n := 56) fk13_l (by rw [Rk11_l])
def fk15 : List Value := fk14.set 14 (.ref 91)
theorem fk15_l : fk15.length = 18 := by unfold fk15; rw [List.length_set]; exact fk14_l
def Rk13 : List kE := Rk12 ++ cX10 91
theorem Rk13_l : Rk13.length = 64 := by unfold Rk13; rw [List.length_append, Rk12_l]; rfl
theorem Rk13_3 : Rk13[32]? = some (.inl (.object "KnockFinder$State", 8, .inr (.inr (.inr (.inr fun j => if j < 8 then none else some 0))))) := by unfold Rk13; rw [List.getElem?_append_left (by rw [Rk12_l]; decide)]; exact Rk12_3
theorem mk_15 {d : Nat} {b : Nat → Option kE} : ex (d + 2) mX11_init 144 [some (.ref 32), none] [] (hq b [] ((.inr (12, fk14)) :: Rk12) 6292) = ex (d + 2) mX11_init 155 [some (.ref 32), none] [] (hq b [] ((.inr (12, fk15)) :: Rk13) 6350) := st_144 (C := []) (fs := fk14) (R := Rk12) (s := 6292) (n := 59) fk14_l (by rw [Rk12_l])
def fk16 : List Value := fk15.set 15 (.ref 97)
theorem fk16_l : fk16.length = 18 := by unfold fk16; rw [List.length_set]; exact fk15_l
def Rk14 : List kE := Rk13 ++ cX10 97
theorem Rk14_l : Rk14.length = 70 := by unfold Rk14; rw [List.length_append, Rk13_l]; rfl
theorem Rk14_3 : Rk14[32]? = some (.inl (.object "KnockFinder$State", 8, .inr (.inr (.inr (.inr fun j => if j < 8 then none else some 0))))) := by unfold Rk14; rw [List.getElem?_append_left (by rw [Rk13_l]; decide)]; exact Rk13_3
theorem mk_16 {d : Nat} {b : Nat → Option kE} : ex (d + 2) mX11_init 155 [some (.ref 32), none] [] (hq b [] ((.inr (12, fk15)) :: Rk13) 6350) = ex (d + 2) mX11_init 166 [some (.ref 32), none] [] (hq b [] ((.inr (12, fk16)) :: Rk14) 6408) := st_155 (C := []) (fs := fk15) (R := Rk13) (s := 6350) (n := 65) fk15_l (by rw [Rk13_l])
def fk17 : List Value := fk16.set 16 (.ref 103)
theorem fk17_l : fk17.length = 18 := by unfold fk17; rw [List.length_set]; exact fk16_l
def Rk15 : List kE := Rk14 ++ [(.inl (.int, 8, .inl (fun _ => 0)))]
theorem Rk15_l : Rk15.length = 71 := by unfold Rk15; rw [List.length_append, Rk14_l]; rfl
theorem Rk15_3 : Rk15[32]? = some (.inl (.object "KnockFinder$State", 8, .inr (.inr (.inr (.inr fun j => if j < 8 then none else some 0))))) := by unfold Rk15; rw [List.getElem?_append_left (by rw [Rk14_l]; decide)]; exact Rk14_3
theorem mk_17 {d : Nat} {b : Nat → Option kE} : ex (d + 2) mX11_init 166 [some (.ref 32), none] [] (hq b [] ((.inr (12, fk16)) :: Rk14) 6408) = ex (d + 2) mX11_init 174 [some (.ref 32), none] [] (hq b [] ((.inr (12, fk17)) :: Rk15) 6416) := st_166 (C := []) (fs := fk16) (R := Rk14) (s := 6408) (n := 71) fk16_l (by rw [Rk14_l])
def fk18 : List Value := fk17.set 17 (.ref 104)
theorem fk18_l : fk18.length = 18 := by unfold fk18; rw [List.length_set]; exact fk17_l
def Rk16 : List kE := Rk15 ++ [(.inl (.int, 699, .inl (fun _ => 0)))]
theorem Rk16_l : Rk16.length = 72 := by unfold Rk16; rw [List.length_append, Rk15_l]; rfl
theorem Rk16_3 : Rk16[32]? = some (.inl (.object "KnockFinder$State", 8, .inr (.inr (.inr (.inr fun j => if j < 8 then none else some 0))))) := by unfold Rk16; rw [List.getElem?_append_left (by rw [Rk15_l]; decide)]; exact Rk15_3
theorem mk_18 {d : Nat} {b : Nat → Option kE} : ex (d + 2) mX11_init 174 [some (.ref 32), none] [] (hq b [] ((.inr (12, fk17)) :: Rk15) 6416) = ex (d + 2) mX11_init 183 [some (.ref 32), none] [] (hq b [] ((.inr (12, fk18)) :: Rk16) 7115) := st_174 (C := []) (fs := fk17) (R := Rk15) (s := 6416) (n := 72) fk17_l (by rw [Rk15_l])
theorem mk_19 {d : Nat} {b : Nat → Option kE} : ex (d + 2) mX11_init 183 [some (.ref 32), none] [] (hq b [] ((.inr (12, fk18)) :: Rk16) 7115) = ex (d + 2) mX11_init 185 [some (.ref 32), some (.int (nI 0))] [] (hq b [] ((.inr (12, fk18)) :: Rk16) 7115) := st_183 (C := []) (fs := fk18) (R := Rk16) (s := 7115)
theorem fk_3 : fk18[3]? = some (.ref 65) := rfl
def Rk17 : List kE := Rk16.set 32 (.inl (.object "KnockFinder$State", 8, .inr (.inr (.inr (.inr (va_up (fun j => if j < 8 then none else some 0) 0 (some 105))))))) ++ cX7 105
theorem Rk17_l : Rk17.length = 86 := by unfold Rk17; rw [List.length_append, List.length_set, Rk16_l]; rfl
theorem Rk17_3 : Rk17[32]? = some (.inl (.object "KnockFinder$State", 8, .inr (.inr (.inr (.inr (va_up (fun j => if j < 8 then none else some 0) 0 (some 105))))))) := by unfold Rk17; exact lp33 (by rw [Rk16_l]; decide)
theorem mk_20 {d : Nat} {b : Nat → Option kE} : ex (d + 2) mX11_init 185 [some (.ref 32), some (.int (nI 0))] [] (hq b [] ((.inr (12, fk18)) :: Rk16) 7115) = ex (d + 2) mX11_init 185 [some (.ref 32), some (.int (nI 1))] [] (hq b [] ((.inr (12, fk18)) :: Rk17) 7801) := st_lp (C := []) (fs := fk18) (R := Rk16) (s := 7115) (n := 73) (x := 0) (f := (fun j => if j < 8 then none else some 0)) (by decide) (by rw [Rk16_l]) fk_3 Rk16_3
def Rk18 : List kE := Rk17.set 32 (.inl (.object "KnockFinder$State", 8, .inr (.inr (.inr (.inr (va_up (va_up (fun j => if j < 8 then none else some 0) 0 (some 105)) 1 (some 119))))))) ++ cX7 119
theorem Rk18_l : Rk18.length = 100 := by unfold Rk18; rw [List.length_append, List.length_set, Rk17_l]; rfl
theorem Rk18_3 : Rk18[32]? = some (.inl (.object "KnockFinder$State", 8, .inr (.inr (.inr (.inr (va_up (va_up (fun j => if j < 8 then none else some 0) 0 (some 105)) 1 (some 119))))))) := by unfold Rk18; exact lp33 (by rw [Rk17_l]; decide)
theorem mk_21 {d : Nat} {b : Nat → Option kE} : ex (d + 2) mX11_init 185 [some (.ref 32), some (.int (nI 1))] [] (hq b [] ((.inr (12, fk18)) :: Rk17) 7801) = ex (d + 2) mX11_init 185 [some (.ref 32), some (.int (nI 2))] [] (hq b [] ((.inr (12, fk18)) :: Rk18) 8487) := st_lp (C := []) (fs := fk18) (R := Rk17) (s := 7801) (n := 87) (x := 1) (f := (va_up (fun j => if j < 8 then none else some 0) 0 (some 105))) (by decide) (by rw [Rk17_l]) fk_3 Rk17_3
def Rk19 : List kE := Rk18.set 32 (.inl (.object "KnockFinder$State", 8, .inr (.inr (.inr (.inr (va_up (va_up (va_up (fun j => if j < 8 then none else some 0) 0 (some 105)) 1 (some 119)) 2 (some 133))))))) ++ cX7 133
theorem Rk19_l : Rk19.length = 114 := by unfold Rk19; rw [List.length_append, List.length_set, Rk18_l]; rfl
theorem Rk19_3 : Rk19[32]? = some (.inl (.object "KnockFinder$State", 8, .inr (.inr (.inr (.inr (va_up (va_up (va_up (fun j => if j < 8 then none else some 0) 0 (some 105)) 1 (some 119)) 2 (some 133))))))) := by unfold Rk19; exact lp33 (by rw [Rk18_l]; decide)
theorem mk_22 {d : Nat} {b : Nat → Option kE} : ex (d + 2) mX11_init 185 [some (.ref 32), some (.int (nI 2))] [] (hq b [] ((.inr (12, fk18)) :: Rk18) 8487) = ex (d + 2) mX11_init 185 [some (.ref 32), some (.int (nI 3))] [] (hq b [] ((.inr (12, fk18)) :: Rk19) 9173) := st_lp (C := []) (fs := fk18) (R := Rk18) (s := 8487) (n := 101) (x := 2) (f := (va_up (va_up (fun j => if j < 8 then none else some 0) 0 (some 105)) 1 (some 119))) (by decide) (by rw [Rk18_l]) fk_3 Rk18_3
def Rk20 : List kE := Rk19.set 32 (.inl (.object "KnockFinder$State", 8, .inr (.inr (.inr (.inr (va_up (va_up (va_up (va_up (fun j => if j < 8 then none else some 0) 0 (some 105)) 1 (some 119)) 2 (some 133)) 3 (some 147))))))) ++ cX7 147
theorem Rk20_l : Rk20.length = 128 := by unfold Rk20; rw [List.length_append, List.length_set, Rk19_l]; rfl
theorem Rk20_3 : Rk20[32]? = some (.inl (.object "KnockFinder$State", 8, .inr (.inr (.inr (.inr (va_up (va_up (va_up (va_up (fun j => if j < 8 then none else some 0) 0 (some 105)) 1 (some 119)) 2 (some 133)) 3 (some 147))))))) := by unfold Rk20; exact lp33 (by rw [Rk19_l]; decide)
theorem mk_23 {d : Nat} {b : Nat → Option kE} : ex (d + 2) mX11_init 185 [some (.ref 32), some (.int (nI 3))] [] (hq b [] ((.inr (12, fk18)) :: Rk19) 9173) = ex (d + 2) mX11_init 185 [some (.ref 32), some (.int (nI 4))] [] (hq b [] ((.inr (12, fk18)) :: Rk20) 9859) := st_lp (C := []) (fs := fk18) (R := Rk19) (s := 9173) (n := 115) (x := 3) (f := (va_up (va_up (va_up (fun j => if j < 8 then none else some 0) 0 (some 105)) 1 (some 119)) 2 (some 133))) (by decide) (by rw [Rk19_l]) fk_3 Rk19_3
def Rk21 : List kE := Rk20.set 32 (.inl (.object "KnockFinder$State", 8, .inr (.inr (.inr (.inr (va_up (va_up (va_up (va_up (va_up (fun j => if j < 8 then none else some 0) 0 (some 105)) 1 (some 119)) 2 (some 133)) 3 (some 147)) 4 (some 161))))))) ++ cX7 161
theorem Rk21_l : Rk21.length = 142 := by unfold Rk21; rw [List.length_append, List.length_set, Rk20_l]; rfl
theorem Rk21_3 : Rk21[32]? = some (.inl (.object "KnockFinder$State", 8, .inr (.inr (.inr (.inr (va_up (va_up (va_up (va_up (va_up (fun j => if j < 8 then none else some 0) 0 (some 105)) 1 (some 119)) 2 (some 133)) 3 (some 147)) 4 (some 161))))))) := by unfold Rk21; exact lp33 (by rw [Rk20_l]; decide)
theorem mk_24 {d : Nat} {b : Nat → Option kE} : ex (d + 2) mX11_init 185 [some (.ref 32), some (.int (nI 4))] [] (hq b [] ((.inr (12, fk18)) :: Rk20) 9859) = ex (d + 2) mX11_init 185 [some (.ref 32), some (.int (nI 5))] [] (hq b [] ((.inr (12, fk18)) :: Rk21) 10545) := st_lp (C := []) (fs := fk18) (R := Rk20) (s := 9859) (n := 129) (x := 4) (f := (va_up (va_up (va_up (va_up (fun j => if j < 8 then none else some 0) 0 (some 105)) 1 (some 119)) 2 (some 133)) 3 (some 147))) (by decide) (by rw [Rk20_l]) fk_3 Rk20_3
def Rk22 : List kE := Rk21.set 32 (.inl (.object "KnockFinder$State", 8, .inr (.inr (.inr (.inr (va_up (va_up (va_up (va_up (va_up (va_up (fun j => if j < 8 then none else some 0) 0 (some 105)) 1 (some 119)) 2 (some 133)) 3 (some 147)) 4 (some 161)) 5 (some 175))))))) ++ cX7 175
theorem Rk22_l : Rk22.length = 156 := by unfold Rk22; rw [List.length_append, List.length_set, Rk21_l]; rfl
theorem Rk22_3 : Rk22[32]? = some (.inl (.object "KnockFinder$State", 8, .inr (.inr (.inr (.inr (va_up (va_up (va_up (va_up (va_up (va_up (fun j => if j < 8 then none else some 0) 0 (some 105)) 1 (some 119)) 2 (some 133)) 3 (some 147)) 4 (some 161)) 5 (some 175))))))) := by unfold Rk22; exact lp33 (by rw [Rk21_l]; decide)
theorem mk_25 {d : Nat} {b : Nat → Option kE} : ex (d + 2) mX11_init 185 [some (.ref 32), some (.int (nI 5))] [] (hq b [] ((.inr (12, fk18)) :: Rk21) 10545) = ex (d + 2) mX11_init 185 [some (.ref 32), some (.int (nI 6))] [] (hq b [] ((.inr (12, fk18)) :: Rk22) 11231) := st_lp (C := []) (fs := fk18) (R := Rk21) (s := 10545) (n := 143) (x := 5) (f := (va_up (va_up (va_up (va_up (va_up (fun j => if j < 8 then none else some 0) 0 (some 105)) 1 (some 119)) 2 (some 133)) 3 (some 147)) 4 (some 161))) (by decide) (by rw [Rk21_l]) fk_3 Rk21_3
def Rk23 : List kE := Rk22.set 32 (.inl (.object "KnockFinder$State", 8, .inr (.inr (.inr (.inr (va_up (va_up (va_up (va_up (va_up (va_up (va_up (fun j => if j < 8 then none else some 0) 0 (some 105)) 1 (some 119)) 2 (some 133)) 3 (some 147)) 4 (some 161)) 5 (some 175)) 6 (some 189))))))) ++ cX7 189
theorem Rk23_l : Rk23.length = 170 := by unfold Rk23; rw [List.length_append, List.length_set, Rk22_l]; rfl
theorem Rk23_3 : Rk23[32]? = some (.inl (.object "KnockFinder$State", 8, .inr (.inr (.inr (.inr (va_up (va_up (va_up (va_up (va_up (va_up (va_up (fun j => if j < 8 then none else some 0) 0 (some 105)) 1 (some 119)) 2 (some 133)) 3 (some 147)) 4 (some 161)) 5 (some 175)) 6 (some 189))))))) := by unfold Rk23; exact lp33 (by rw [Rk22_l]; decide)
theorem mk_26 {d : Nat} {b : Nat → Option kE} : ex (d + 2) mX11_init 185 [some (.ref 32), some (.int (nI 6))] [] (hq b [] ((.inr (12, fk18)) :: Rk22) 11231) = ex (d + 2) mX11_init 185 [some (.ref 32), some (.int (nI 7))] [] (hq b [] ((.inr (12, fk18)) :: Rk23) 11917) := st_lp (C := []) (fs := fk18) (R := Rk22) (s := 11231) (n := 157) (x := 6) (f := (va_up (va_up (va_up (va_up (va_up (va_up (fun j => if j < 8 then none else some 0) 0 (some 105)) 1 (some 119)) 2 (some 133)) 3 (some 147)) 4 (some 161)) 5 (some 175))) (by decide) (by rw [Rk22_l]) fk_3 Rk22_3
def Rk24 : List kE := Rk23.set 32 (.inl (.object "KnockFinder$State", 8, .inr (.inr (.inr (.inr (va_up (va_up (va_up (va_up (va_up (va_up (va_up (va_up (fun j => if j < 8 then none else some 0) 0 (some 105)) 1 (some 119)) 2 (some 133)) 3 (some 147)) 4 (some 161)) 5 (some 175)) 6 (some 189)) 7 (some 203))))))) ++ cX7 203
theorem Rk24_l : Rk24.length = 184 := by unfold Rk24; rw [List.length_append, List.length_set, Rk23_l]; rfl
theorem Rk24_3 : Rk24[32]? = some (.inl (.object "KnockFinder$State", 8, .inr (.inr (.inr (.inr (va_up (va_up (va_up (va_up (va_up (va_up (va_up (va_up (fun j => if j < 8 then none else some 0) 0 (some 105)) 1 (some 119)) 2 (some 133)) 3 (some 147)) 4 (some 161)) 5 (some 175)) 6 (some 189)) 7 (some 203))))))) := by unfold Rk24; exact lp33 (by rw [Rk23_l]; decide)
theorem mk_27 {d : Nat} {b : Nat → Option kE} : ex (d + 2) mX11_init 185 [some (.ref 32), some (.int (nI 7))] [] (hq b [] ((.inr (12, fk18)) :: Rk23) 11917) = ex (d + 2) mX11_init 185 [some (.ref 32), some (.int (nI 8))] [] (hq b [] ((.inr (12, fk18)) :: Rk24) 12603) := st_lp (C := []) (fs := fk18) (R := Rk23) (s := 11917) (n := 171) (x := 7) (f := (va_up (va_up (va_up (va_up (va_up (va_up (va_up (fun j => if j < 8 then none else some 0) 0 (some 105)) 1 (some 119)) 2 (some 133)) 3 (some 147)) 4 (some 161)) 5 (some 175)) 6 (some 189))) (by decide) (by rw [Rk23_l]) fk_3 Rk23_3
def cX11 : List kE := (.inr (12, fk18)) :: Rk24
theorem cX11_l : cX11.length = 185 := by unfold cX11; rw [List.length_cons, Rk24_l]
theorem i_X11 {d : Nat} {b : Nat → Option kE} : rn (d + 3) mX11_init [.ref 32] (hq b [] [(.inr (12, kdef 12))] 18) = some (none, hq b [] cX11 12603) := by
  rw [X11_init_E]
  refine mk_0.trans ?_
  refine mk_1.trans ?_
  refine mk_2.trans ?_
  refine mk_3.trans ?_
  refine mk_4.trans ?_
  refine mk_5.trans ?_
  refine mk_6.trans ?_
  refine mk_7.trans ?_
  refine mk_8.trans ?_
  refine mk_9.trans ?_
  refine mk_10.trans ?_
  refine mk_11.trans ?_
  refine mk_12.trans ?_
  refine mk_13.trans ?_
  refine mk_14.trans ?_
  refine mk_15.trans ?_
  refine mk_16.trans ?_
  refine mk_17.trans ?_
  refine mk_18.trans ?_
  refine mk_19.trans ?_
  refine mk_20.trans ?_
  refine mk_21.trans ?_
  refine mk_22.trans ?_
  refine mk_23.trans ?_
  refine mk_24.trans ?_
  refine mk_25.trans ?_
  refine mk_26.trans ?_
  refine mk_27.trans ?_
  exact st_end (C := []) (fs := fk18) (R := Rk24) (s := 12603)
section MST2
variable {d : Nat} {b : Nat → Option kE} {C R : List kE} {fs : List Value} {s n : Nat}
theorem mt_4 (hf : fs.length = 54) (hn : R.length + 1 = n) : ex d mX12_init 4 [some (.ref (32 + C.length))] [] (hq b C ((.inr (13, fs)) :: R) s) = ex d mX12_init 13 [some (.ref (32 + C.length))] [] (hq b C ((.inr (13, fs.set 0 (.ref (32 + C.length + n)))) :: (R ++ [(.inl (.int, 676, .inl (fun _ => 0)))])) (s + 676)) := by
  have hn' : (((.inr (13, fs)) : kE) :: R).length = n := by rw [List.length_cons]; exact hn
  rw [X12_init_4, X12_init_5, X12_init_8, if_pos (by decide), hq_top, hn', hq_new]
  show ex d mX12_init 10 [some (.ref (32 + C.length))] [.ref (32 + C.length + n), .ref (32 + C.length)] (hq b C ((.inr (13, fs)) :: (R ++ [(.inl (.int, 676, .inl (fun _ => 0)))])) (s + 676)) = _
  rw [X12_init_10, hq_p0 (fs := fs) rfl (by omega) rfl]
  rfl
theorem mt_13 (hf : fs.length = 54) (hn : R.length + 1 = n) : ex d mX12_init 13 [some (.ref (32 + C.length))] [] (hq b C ((.inr (13, fs)) :: R) s) = ex d mX12_init 22 [some (.ref (32 + C.length))] [] (hq b C ((.inr (13, fs.set 1 (.ref (32 + C.length + n)))) :: (R ++ [(.inl (.int, 676, .inl (fun _ => 0)))])) (s + 676)) := by
  have hn' : (((.inr (13, fs)) : kE) :: R).length = n := by rw [List.length_cons]; exact hn
  rw [X12_init_13, X12_init_14, X12_init_17, if_pos (by decide), hq_top, hn', hq_new]
  show ex d mX12_init 19 [some (.ref (32 + C.length))] [.ref (32 + C.length + n), .ref (32 + C.length)] (hq b C ((.inr (13, fs)) :: (R ++ [(.inl (.int, 676, .inl (fun _ => 0)))])) (s + 676)) = _
  rw [X12_init_19, hq_p0 (fs := fs) rfl (by omega) rfl]
  rfl
theorem mt_22 (hf : fs.length = 54) (hn : R.length + 1 = n) : ex d mX12_init 22 [some (.ref (32 + C.length))] [] (hq b C ((.inr (13, fs)) :: R) s) = ex d mX12_init 31 [some (.ref (32 + C.length))] [] (hq b C ((.inr (13, fs.set 2 (.ref (32 + C.length + n)))) :: (R ++ [(.inl (.int, 5408, .inl (fun _ => 0)))])) (s + 5408)) := by
  have hn' : (((.inr (13, fs)) : kE) :: R).length = n := by rw [List.length_cons]; exact hn
  rw [X12_init_22, X12_init_23, X12_init_26, if_pos (by decide), hq_top, hn', hq_new]
  show ex d mX12_init 28 [some (.ref (32 + C.length))] [.ref (32 + C.length + n), .ref (32 + C.length)] (hq b C ((.inr (13, fs)) :: (R ++ [(.inl (.int, 5408, .inl (fun _ => 0)))])) (s + 5408)) = _
  rw [X12_init_28, hq_p0 (fs := fs) rfl (by omega) rfl]
  rfl
theorem mt_31 (hf : fs.length = 54) (hn : R.length + 1 = n) : ex d mX12_init 31 [some (.ref (32 + C.length))] [] (hq b C ((.inr (13, fs)) :: R) s) = ex d mX12_init 40 [some (.ref (32 + C.length))] [] (hq b C ((.inr (13, fs.set 4 (.ref (32 + C.length + n)))) :: (R ++ [(.inl (.byte, 240, .inl (fun _ => 0)))])) (s + 240)) := by
  have hn' : (((.inr (13, fs)) : kE) :: R).length = n := by rw [List.length_cons]; exact hn
  rw [X12_init_31, X12_init_32, X12_init_35, if_pos (by decide), hq_top, hn', hq_new]
  show ex d mX12_init 37 [some (.ref (32 + C.length))] [.ref (32 + C.length + n), .ref (32 + C.length)] (hq b C ((.inr (13, fs)) :: (R ++ [(.inl (.byte, 240, .inl (fun _ => 0)))])) (s + 240)) = _
  rw [X12_init_37, hq_p0 (fs := fs) rfl (by omega) rfl]
  rfl
theorem mt_40 (hf : fs.length = 54) (hn : R.length + 1 = n) : ex d mX12_init 40 [some (.ref (32 + C.length))] [] (hq b C ((.inr (13, fs)) :: R) s) = ex d mX12_init 48 [some (.ref (32 + C.length))] [] (hq b C ((.inr (13, fs.set 11 (.ref (32 + C.length + n)))) :: (R ++ [(.inl (.int, 20, .inl (fun _ => 0)))])) (s + 20)) := by
  have hn' : (((.inr (13, fs)) : kE) :: R).length = n := by rw [List.length_cons]; exact hn
  rw [X12_init_40, X12_init_41, X12_init_43, if_pos (by decide), hq_top, hn', hq_new]
  show ex d mX12_init 45 [some (.ref (32 + C.length))] [.ref (32 + C.length + n), .ref (32 + C.length)] (hq b C ((.inr (13, fs)) :: (R ++ [(.inl (.int, 20, .inl (fun _ => 0)))])) (s + 20)) = _
  rw [X12_init_45, hq_p0 (fs := fs) rfl (by omega) rfl]
  rfl
theorem mt_48 (hf : fs.length = 54) (hn : R.length + 1 = n) : ex d mX12_init 48 [some (.ref (32 + C.length))] [] (hq b C ((.inr (13, fs)) :: R) s) = ex d mX12_init 57 [some (.ref (32 + C.length))] [] (hq b C ((.inr (13, fs.set 15 (.ref (32 + C.length + n)))) :: (R ++ [(.inl (.int, 200, .inl (fun _ => 0)))])) (s + 200)) := by
  have hn' : (((.inr (13, fs)) : kE) :: R).length = n := by rw [List.length_cons]; exact hn
  rw [X12_init_48, X12_init_49, X12_init_52, if_pos (by decide), hq_top, hn', hq_new]
  show ex d mX12_init 54 [some (.ref (32 + C.length))] [.ref (32 + C.length + n), .ref (32 + C.length)] (hq b C ((.inr (13, fs)) :: (R ++ [(.inl (.int, 200, .inl (fun _ => 0)))])) (s + 200)) = _
  rw [X12_init_54, hq_p0 (fs := fs) rfl (by omega) rfl]
  rfl
theorem mt_57 (hf : fs.length = 54) (hn : R.length + 1 = n) : ex d mX12_init 57 [some (.ref (32 + C.length))] [] (hq b C ((.inr (13, fs)) :: R) s) = ex d mX12_init 66 [some (.ref (32 + C.length))] [] (hq b C ((.inr (13, fs.set 16 (.ref (32 + C.length + n)))) :: (R ++ [(.inl (.int, 200, .inl (fun _ => 0)))])) (s + 200)) := by
  have hn' : (((.inr (13, fs)) : kE) :: R).length = n := by rw [List.length_cons]; exact hn
  rw [X12_init_57, X12_init_58, X12_init_61, if_pos (by decide), hq_top, hn', hq_new]
  show ex d mX12_init 63 [some (.ref (32 + C.length))] [.ref (32 + C.length + n), .ref (32 + C.length)] (hq b C ((.inr (13, fs)) :: (R ++ [(.inl (.int, 200, .inl (fun _ => 0)))])) (s + 200)) = _
  rw [X12_init_63, hq_p0 (fs := fs) rfl (by omega) rfl]
  rfl
theorem mt_66 (hf : fs.length = 54) (hn : R.length + 1 = n) : ex d mX12_init 66 [some (.ref (32 + C.length))] [] (hq b C ((.inr (13, fs)) :: R) s) = ex d mX12_init 73 [some (.ref (32 + C.length))] [] (hq b C ((.inr (13, fs.set 17 (.ref (32 + C.length + n)))) :: (R ++ [(.inl (.int, 4, .inl (fun _ => 0)))])) (s + 4)) := by
  have hn' : (((.inr (13, fs)) : kE) :: R).length = n := by rw [List.length_cons]; exact hn
  rw [X12_init_66, X12_init_67, X12_init_68, if_pos (by decide), hq_top, hn', hq_new]
  show ex d mX12_init 70 [some (.ref (32 + C.length))] [.ref (32 + C.length + n), .ref (32 + C.length)] (hq b C ((.inr (13, fs)) :: (R ++ [(.inl (.int, 4, .inl (fun _ => 0)))])) (s + 4)) = _
  rw [X12_init_70, hq_p0 (fs := fs) rfl (by omega) rfl]
  rfl
theorem mt_73 (hf : fs.length = 54) (hn : R.length + 1 = n) : ex d mX12_init 73 [some (.ref (32 + C.length))] [] (hq b C ((.inr (13, fs)) :: R) s) = ex d mX12_init 82 [some (.ref (32 + C.length))] [] (hq b C ((.inr (13, fs.set 19 (.ref (32 + C.length + n)))) :: (R ++ [(.inl (.int, 200, .inl (fun _ => 0)))])) (s + 200)) := by
  have hn' : (((.inr (13, fs)) : kE) :: R).length = n := by rw [List.length_cons]; exact hn
  rw [X12_init_73, X12_init_74, X12_init_77, if_pos (by decide), hq_top, hn', hq_new]
  show ex d mX12_init 79 [some (.ref (32 + C.length))] [.ref (32 + C.length + n), .ref (32 + C.length)] (hq b C ((.inr (13, fs)) :: (R ++ [(.inl (.int, 200, .inl (fun _ => 0)))])) (s + 200)) = _
  rw [X12_init_79, hq_p0 (fs := fs) rfl (by omega) rfl]
  rfl
theorem mt_82 (hf : fs.length = 54) (hn : R.length + 1 = n) : ex d mX12_init 82 [some (.ref (32 + C.length))] [] (hq b C ((.inr (13, fs)) :: R) s) = ex d mX12_init 91 [some (.ref (32 + C.length))] [] (hq b C ((.inr (13, fs.set 20 (.ref (32 + C.length + n)))) :: (R ++ [(.inl (.int, 200, .inl (fun _ => 0)))])) (s + 200)) := by
  have hn' : (((.inr (13, fs)) : kE) :: R).length = n := by rw [List.length_cons]; exact hn
  rw [X12_init_82, X12_init_83, X12_init_86, if_pos (by decide), hq_top, hn', hq_new]
  show ex d mX12_init 88 [some (.ref (32 + C.length))] [.ref (32 + C.length + n), .ref (32 + C.length)] (hq b C ((.inr (13, fs)) :: (R ++ [(.inl (.int, 200, .inl (fun _ => 0)))])) (s + 200)) = _
  rw [X12_init_88, hq_p0 (fs := fs) rfl (by omega) rfl]
  rfl
theorem mt_91 (hf : fs.length = 54) (hn : R.length + 1 = n) : ex d mX12_init 91 [some (.ref (32 + C.length))] [] (hq b C ((.inr (13, fs)) :: R) s) = ex d mX12_init 100 [some (.ref (32 + C.length))] [] (hq b C ((.inr (13, fs.set 21 (.ref (32 + C.length + n)))) :: (R ++ [(.inl (.long, 200, .inr (.inl (fun _ => 0))))])) (s + 200)) := by
  have hn' : (((.inr (13, fs)) : kE) :: R).length = n := by rw [List.length_cons]; exact hn
  rw [X12_init_91, X12_init_92, X12_init_95, if_pos (by decide), hq_top, hn', hq_new]
  show ex d mX12_init 97 [some (.ref (32 + C.length))] [.ref (32 + C.length + n), .ref (32 + C.length)] (hq b C ((.inr (13, fs)) :: (R ++ [(.inl (.long, 200, .inr (.inl (fun _ => 0))))])) (s + 200)) = _
  rw [X12_init_97, hq_p0 (fs := fs) rfl (by omega) rfl]
  rfl
theorem mt_100 (hf : fs.length = 54) (hn : R.length + 1 = n) : ex d mX12_init 100 [some (.ref (32 + C.length))] [] (hq b C ((.inr (13, fs)) :: R) s) = ex d mX12_init 109 [some (.ref (32 + C.length))] [] (hq b C ((.inr (13, fs.set 23 (.ref (32 + C.length + n)))) :: (R ++ [(.inl (.int, 200, .inl (fun _ => 0)))])) (s + 200)) := by
  have hn' : (((.inr (13, fs)) : kE) :: R).length = n := by rw [List.length_cons]; exact hn
  rw [X12_init_100, X12_init_101, X12_init_104, if_pos (by decide), hq_top, hn', hq_new]
  show ex d mX12_init 106 [some (.ref (32 + C.length))] [.ref (32 + C.length + n), .ref (32 + C.length)] (hq b C ((.inr (13, fs)) :: (R ++ [(.inl (.int, 200, .inl (fun _ => 0)))])) (s + 200)) = _
  rw [X12_init_106, hq_p0 (fs := fs) rfl (by omega) rfl]
  rfl
theorem mt_109 (hf : fs.length = 54) (hn : R.length + 1 = n) : ex d mX12_init 109 [some (.ref (32 + C.length))] [] (hq b C ((.inr (13, fs)) :: R) s) = ex d mX12_init 118 [some (.ref (32 + C.length))] [] (hq b C ((.inr (13, fs.set 24 (.ref (32 + C.length + n)))) :: (R ++ [(.inl (.long, 200, .inr (.inl (fun _ => 0))))])) (s + 200)) := by
  have hn' : (((.inr (13, fs)) : kE) :: R).length = n := by rw [List.length_cons]; exact hn
  rw [X12_init_109, X12_init_110, X12_init_113, if_pos (by decide), hq_top, hn', hq_new]
  show ex d mX12_init 115 [some (.ref (32 + C.length))] [.ref (32 + C.length + n), .ref (32 + C.length)] (hq b C ((.inr (13, fs)) :: (R ++ [(.inl (.long, 200, .inr (.inl (fun _ => 0))))])) (s + 200)) = _
  rw [X12_init_115, hq_p0 (fs := fs) rfl (by omega) rfl]
  rfl
theorem mt_118 (hf : fs.length = 54) (hn : R.length + 1 = n) : ex d mX12_init 118 [some (.ref (32 + C.length))] [] (hq b C ((.inr (13, fs)) :: R) s) = ex d mX12_init 127 [some (.ref (32 + C.length))] [] (hq b C ((.inr (13, fs.set 31 (.ref (32 + C.length + n)))) :: (R ++ [(.inl (.boolean, 200, .inl (fun _ => 0)))])) (s + 200)) := by
  have hn' : (((.inr (13, fs)) : kE) :: R).length = n := by rw [List.length_cons]; exact hn
  rw [X12_init_118, X12_init_119, X12_init_122, if_pos (by decide), hq_top, hn', hq_new]
  show ex d mX12_init 124 [some (.ref (32 + C.length))] [.ref (32 + C.length + n), .ref (32 + C.length)] (hq b C ((.inr (13, fs)) :: (R ++ [(.inl (.boolean, 200, .inl (fun _ => 0)))])) (s + 200)) = _
  rw [X12_init_124, hq_p0 (fs := fs) rfl (by omega) rfl]
  rfl
theorem mt_127 (hf : fs.length = 54) (hn : R.length + 1 = n) : ex d mX12_init 127 [some (.ref (32 + C.length))] [] (hq b C ((.inr (13, fs)) :: R) s) = ex d mX12_init 136 [some (.ref (32 + C.length))] [] (hq b C ((.inr (13, fs.set 32 (.ref (32 + C.length + n)))) :: (R ++ [(.inl (.long, 1600, .inr (.inl (fun _ => 0))))])) (s + 1600)) := by
  have hn' : (((.inr (13, fs)) : kE) :: R).length = n := by rw [List.length_cons]; exact hn
  rw [X12_init_127, X12_init_128, X12_init_131, if_pos (by decide), hq_top, hn', hq_new]
  show ex d mX12_init 133 [some (.ref (32 + C.length))] [.ref (32 + C.length + n), .ref (32 + C.length)] (hq b C ((.inr (13, fs)) :: (R ++ [(.inl (.long, 1600, .inr (.inl (fun _ => 0))))])) (s + 1600)) = _
  rw [X12_init_133, hq_p0 (fs := fs) rfl (by omega) rfl]
  rfl
theorem mt_136 (hf : fs.length = 54) (hn : R.length + 1 = n) : ex d mX12_init 136 [some (.ref (32 + C.length))] [] (hq b C ((.inr (13, fs)) :: R) s) = ex d mX12_init 145 [some (.ref (32 + C.length))] [] (hq b C ((.inr (13, fs.set 33 (.ref (32 + C.length + n)))) :: (R ++ [(.inl (.boolean, 400, .inl (fun _ => 0)))])) (s + 400)) := by
  have hn' : (((.inr (13, fs)) : kE) :: R).length = n := by rw [List.length_cons]; exact hn
  rw [X12_init_136, X12_init_137, X12_init_140, if_pos (by decide), hq_top, hn', hq_new]
  show ex d mX12_init 142 [some (.ref (32 + C.length))] [.ref (32 + C.length + n), .ref (32 + C.length)] (hq b C ((.inr (13, fs)) :: (R ++ [(.inl (.boolean, 400, .inl (fun _ => 0)))])) (s + 400)) = _
  rw [X12_init_142, hq_p0 (fs := fs) rfl (by omega) rfl]
  rfl
theorem mt_145 (hf : fs.length = 54) (hn : R.length + 1 = n) : ex d mX12_init 145 [some (.ref (32 + C.length))] [] (hq b C ((.inr (13, fs)) :: R) s) = ex d mX12_init 154 [some (.ref (32 + C.length))] [] (hq b C ((.inr (13, fs.set 34 (.ref (32 + C.length + n)))) :: (R ++ [(.inl (.boolean, 200, .inl (fun _ => 0)))])) (s + 200)) := by
  have hn' : (((.inr (13, fs)) : kE) :: R).length = n := by rw [List.length_cons]; exact hn
  rw [X12_init_145, X12_init_146, X12_init_149, if_pos (by decide), hq_top, hn', hq_new]
  show ex d mX12_init 151 [some (.ref (32 + C.length))] [.ref (32 + C.length + n), .ref (32 + C.length)] (hq b C ((.inr (13, fs)) :: (R ++ [(.inl (.boolean, 200, .inl (fun _ => 0)))])) (s + 200)) = _
  rw [X12_init_151, hq_p0 (fs := fs) rfl (by omega) rfl]
  rfl
theorem mt_154 (hf : fs.length = 54) (hn : R.length + 1 = n) : ex d mX12_init 154 [some (.ref (32 + C.length))] [] (hq b C ((.inr (13, fs)) :: R) s) = ex d mX12_init 162 [some (.ref (32 + C.length))] [] (hq b C ((.inr (13, fs.set 38 (.ref (32 + C.length + n)))) :: (R ++ [(.inl (.int, 8, .inl (fun _ => 0)))])) (s + 8)) := by
  have hn' : (((.inr (13, fs)) : kE) :: R).length = n := by rw [List.length_cons]; exact hn
  rw [X12_init_154, X12_init_155, X12_init_157, if_pos (by decide), hq_top, hn', hq_new]
  show ex d mX12_init 159 [some (.ref (32 + C.length))] [.ref (32 + C.length + n), .ref (32 + C.length)] (hq b C ((.inr (13, fs)) :: (R ++ [(.inl (.int, 8, .inl (fun _ => 0)))])) (s + 8)) = _
  rw [X12_init_159, hq_p0 (fs := fs) rfl (by omega) rfl]
  rfl
theorem mt_162 (hf : fs.length = 54) (hn : R.length + 1 = n) : ex d mX12_init 162 [some (.ref (32 + C.length))] [] (hq b C ((.inr (13, fs)) :: R) s) = ex d mX12_init 169 [some (.ref (32 + C.length))] [] (hq b C ((.inr (13, fs.set 39 (.ref (32 + C.length + n)))) :: (R ++ [(.inl (.int, 5, .inl (fun _ => 0)))])) (s + 5)) := by
  have hn' : (((.inr (13, fs)) : kE) :: R).length = n := by rw [List.length_cons]; exact hn
  rw [X12_init_162, X12_init_163, X12_init_164, if_pos (by decide), hq_top, hn', hq_new]
  show ex d mX12_init 166 [some (.ref (32 + C.length))] [.ref (32 + C.length + n), .ref (32 + C.length)] (hq b C ((.inr (13, fs)) :: (R ++ [(.inl (.int, 5, .inl (fun _ => 0)))])) (s + 5)) = _
  rw [X12_init_166, hq_p0 (fs := fs) rfl (by omega) rfl]
  rfl
theorem mt_169 (hf : fs.length = 54) (hn : R.length + 1 = n) : ex d mX12_init 169 [some (.ref (32 + C.length))] [] (hq b C ((.inr (13, fs)) :: R) s) = ex d mX12_init 176 [some (.ref (32 + C.length))] [] (hq b C ((.inr (13, fs.set 40 (.ref (32 + C.length + n)))) :: (R ++ [(.inl (.int, 5, .inl (fun _ => 0)))])) (s + 5)) := by
  have hn' : (((.inr (13, fs)) : kE) :: R).length = n := by rw [List.length_cons]; exact hn
  rw [X12_init_169, X12_init_170, X12_init_171, if_pos (by decide), hq_top, hn', hq_new]
  show ex d mX12_init 173 [some (.ref (32 + C.length))] [.ref (32 + C.length + n), .ref (32 + C.length)] (hq b C ((.inr (13, fs)) :: (R ++ [(.inl (.int, 5, .inl (fun _ => 0)))])) (s + 5)) = _
  rw [X12_init_173, hq_p0 (fs := fs) rfl (by omega) rfl]
  rfl
theorem mt_176 (hf : fs.length = 54) (hn : R.length + 1 = n) : ex d mX12_init 176 [some (.ref (32 + C.length))] [] (hq b C ((.inr (13, fs)) :: R) s) = ex d mX12_init 184 [some (.ref (32 + C.length))] [] (hq b C ((.inr (13, fs.set 41 (.ref (32 + C.length + n)))) :: (R ++ [(.inl (.int, 30, .inl (fun _ => 0)))])) (s + 30)) := by
  have hn' : (((.inr (13, fs)) : kE) :: R).length = n := by rw [List.length_cons]; exact hn
  rw [X12_init_176, X12_init_177, X12_init_179, if_pos (by decide), hq_top, hn', hq_new]
  show ex d mX12_init 181 [some (.ref (32 + C.length))] [.ref (32 + C.length + n), .ref (32 + C.length)] (hq b C ((.inr (13, fs)) :: (R ++ [(.inl (.int, 30, .inl (fun _ => 0)))])) (s + 30)) = _
  rw [X12_init_181, hq_p0 (fs := fs) rfl (by omega) rfl]
  rfl
theorem mt_184 (hf : fs.length = 54) (hn : R.length + 1 = n) : ex d mX12_init 184 [some (.ref (32 + C.length))] [] (hq b C ((.inr (13, fs)) :: R) s) = ex d mX12_init 191 [some (.ref (32 + C.length))] [] (hq b C ((.inr (13, fs.set 42 (.ref (32 + C.length + n)))) :: (R ++ [(.inl (.boolean, 5, .inl (fun _ => 0)))])) (s + 5)) := by
  have hn' : (((.inr (13, fs)) : kE) :: R).length = n := by rw [List.length_cons]; exact hn
  rw [X12_init_184, X12_init_185, X12_init_186, if_pos (by decide), hq_top, hn', hq_new]
  show ex d mX12_init 188 [some (.ref (32 + C.length))] [.ref (32 + C.length + n), .ref (32 + C.length)] (hq b C ((.inr (13, fs)) :: (R ++ [(.inl (.boolean, 5, .inl (fun _ => 0)))])) (s + 5)) = _
  rw [X12_init_188, hq_p0 (fs := fs) rfl (by omega) rfl]
  rfl
theorem mt_191 (hf : fs.length = 54) (hn : R.length + 1 = n) : ex d mX12_init 191 [some (.ref (32 + C.length))] [] (hq b C ((.inr (13, fs)) :: R) s) = ex d mX12_init 199 [some (.ref (32 + C.length))] [] (hq b C ((.inr (13, fs.set 44 (.ref (32 + C.length + n)))) :: (R ++ [(.inl (.byte, 80, .inl (fun _ => 0)))])) (s + 80)) := by
  have hn' : (((.inr (13, fs)) : kE) :: R).length = n := by rw [List.length_cons]; exact hn
  rw [X12_init_191, X12_init_192, X12_init_194, if_pos (by decide), hq_top, hn', hq_new]
  show ex d mX12_init 196 [some (.ref (32 + C.length))] [.ref (32 + C.length + n), .ref (32 + C.length)] (hq b C ((.inr (13, fs)) :: (R ++ [(.inl (.byte, 80, .inl (fun _ => 0)))])) (s + 80)) = _
  rw [X12_init_196, hq_p0 (fs := fs) rfl (by omega) rfl]
  rfl
theorem mt_199 (hn : R.length + 1 = n) : ex d mX12_init 199 [some (.ref (32 + C.length))] [] (hq b C ((.inr (13, fs)) :: R) s) = ex d mX12_init 204 [some (.ref (32 + C.length))] [.ref (32 + C.length + n), .ref (32 + C.length)] (hq b C ((.inr (13, fs)) :: (R ++ [(.inl (.byte, 25, .inl (fun _ => 0)))])) (s + 25)) := by
  have hn' : (((.inr (13, fs)) : kE) :: R).length = n := by rw [List.length_cons]; exact hn
  rw [X12_init_199, X12_init_200, X12_init_202, if_pos (by decide), hq_top, hn', hq_new]
  rfl
theorem hq_bl {f : Nat → Int32} {j : Nat} {x : Int32} {K : kE} (hn : R.length + 1 = n) (hj : j < 25) : kbs (hq b C (K :: (R ++ [(.inl (.byte, 25, .inl f))])) s) (32 + C.length + n) (nI j) x = some (hq b C (K :: (R ++ [(.inl (.byte, 25, .inl (upd f j (vp_nar .byte x))))])) s) := by
  have e : (K :: (R ++ [(.inl (.byte, 25, .inl f))]))[n]? = some (.inl (.byte, 25, .inl f)) := by
    rw [← hn, List.getElem?_cons_succ, List.getElem?_append_right (Nat.le_refl _), Nat.sub_self]
    rfl
  rw [hq_bs (i := n) (n := 25) e hj (by decide)]
  have e2 : (K :: (R ++ [(.inl (.byte, 25, .inl f))])).set n (.inl (.byte, 25, .inl (upd f j (vp_nar .byte x)))) = K :: (R ++ [(.inl (.byte, 25, .inl (upd f j (vp_nar .byte x))))]) := by
    rw [← hn, List.set_cons_succ, List.set_append_right _ _ (Nat.le_refl _), Nat.sub_self]
    rfl
  rw [e2]
theorem mw_0 {f : Nat → Int32} (hn : R.length + 1 = n) : ex d mX12_init 204 [some (.ref (32 + C.length))] [.ref (32 + C.length + n), .ref (32 + C.length)] (hq b C ((.inr (13, fs)) :: (R ++ [(.inl (.byte, 25, .inl f))])) s) = ex d mX12_init 209 [some (.ref (32 + C.length))] [.ref (32 + C.length + n), .ref (32 + C.length)] (hq b C ((.inr (13, fs)) :: (R ++ [(.inl (.byte, 25, .inl (upd f 0 (vp_nar .byte 111))))])) s) := by
  rw [X12_init_204, X12_init_205, X12_init_206, X12_init_208, show kbs (hq b C ((.inr (13, fs)) :: (R ++ [(.inl (.byte, 25, .inl f))])) s) (32 + C.length + n) 0 111 = _ from hq_bl (j := 0) (x := 111) hn (by decide)]
  rfl
theorem mw_1 {f : Nat → Int32} (hn : R.length + 1 = n) : ex d mX12_init 209 [some (.ref (32 + C.length))] [.ref (32 + C.length + n), .ref (32 + C.length)] (hq b C ((.inr (13, fs)) :: (R ++ [(.inl (.byte, 25, .inl f))])) s) = ex d mX12_init 214 [some (.ref (32 + C.length))] [.ref (32 + C.length + n), .ref (32 + C.length)] (hq b C ((.inr (13, fs)) :: (R ++ [(.inl (.byte, 25, .inl (upd f 1 (vp_nar .byte 117))))])) s) := by
  rw [X12_init_209, X12_init_210, X12_init_211, X12_init_213, show kbs (hq b C ((.inr (13, fs)) :: (R ++ [(.inl (.byte, 25, .inl f))])) s) (32 + C.length + n) 1 117 = _ from hq_bl (j := 1) (x := 117) hn (by decide)]
  rfl
theorem mw_2 {f : Nat → Int32} (hn : R.length + 1 = n) : ex d mX12_init 214 [some (.ref (32 + C.length))] [.ref (32 + C.length + n), .ref (32 + C.length)] (hq b C ((.inr (13, fs)) :: (R ++ [(.inl (.byte, 25, .inl f))])) s) = ex d mX12_init 219 [some (.ref (32 + C.length))] [.ref (32 + C.length + n), .ref (32 + C.length)] (hq b C ((.inr (13, fs)) :: (R ++ [(.inl (.byte, 25, .inl (upd f 2 (vp_nar .byte 116))))])) s) := by
  rw [X12_init_214, X12_init_215, X12_init_216, X12_init_218, show kbs (hq b C ((.inr (13, fs)) :: (R ++ [(.inl (.byte, 25, .inl f))])) s) (32 + C.length + n) 2 116 = _ from hq_bl (j := 2) (x := 116) hn (by decide)]
  rfl
theorem mw_3 {f : Nat → Int32} (hn : R.length + 1 = n) : ex d mX12_init 219 [some (.ref (32 + C.length))] [.ref (32 + C.length + n), .ref (32 + C.length)] (hq b C ((.inr (13, fs)) :: (R ++ [(.inl (.byte, 25, .inl f))])) s) = ex d mX12_init 224 [some (.ref (32 + C.length))] [.ref (32 + C.length + n), .ref (32 + C.length)] (hq b C ((.inr (13, fs)) :: (R ++ [(.inl (.byte, 25, .inl (upd f 3 (vp_nar .byte 101))))])) s) := by
  rw [X12_init_219, X12_init_220, X12_init_221, X12_init_223, show kbs (hq b C ((.inr (13, fs)) :: (R ++ [(.inl (.byte, 25, .inl f))])) s) (32 + C.length + n) 3 101 = _ from hq_bl (j := 3) (x := 101) hn (by decide)]
  rfl
theorem mw_4 {f : Nat → Int32} (hn : R.length + 1 = n) : ex d mX12_init 224 [some (.ref (32 + C.length))] [.ref (32 + C.length + n), .ref (32 + C.length)] (hq b C ((.inr (13, fs)) :: (R ++ [(.inl (.byte, 25, .inl f))])) s) = ex d mX12_init 229 [some (.ref (32 + C.length))] [.ref (32 + C.length + n), .ref (32 + C.length)] (hq b C ((.inr (13, fs)) :: (R ++ [(.inl (.byte, 25, .inl (upd f 4 (vp_nar .byte 114))))])) s) := by
  rw [X12_init_224, X12_init_225, X12_init_226, X12_init_228, show kbs (hq b C ((.inr (13, fs)) :: (R ++ [(.inl (.byte, 25, .inl f))])) s) (32 + C.length + n) 4 114 = _ from hq_bl (j := 4) (x := 114) hn (by decide)]
  rfl
theorem mw_5 {f : Nat → Int32} (hn : R.length + 1 = n) : ex d mX12_init 229 [some (.ref (32 + C.length))] [.ref (32 + C.length + n), .ref (32 + C.length)] (hq b C ((.inr (13, fs)) :: (R ++ [(.inl (.byte, 25, .inl f))])) s) = ex d mX12_init 234 [some (.ref (32 + C.length))] [.ref (32 + C.length + n), .ref (32 + C.length)] (hq b C ((.inr (13, fs)) :: (R ++ [(.inl (.byte, 25, .inl (upd f 5 (vp_nar .byte 105))))])) s) := by
  rw [X12_init_229, X12_init_230, X12_init_231, X12_init_233, show kbs (hq b C ((.inr (13, fs)) :: (R ++ [(.inl (.byte, 25, .inl f))])) s) (32 + C.length + n) 5 105 = _ from hq_bl (j := 5) (x := 105) hn (by decide)]
  rfl
theorem mw_6 {f : Nat → Int32} (hn : R.length + 1 = n) : ex d mX12_init 234 [some (.ref (32 + C.length))] [.ref (32 + C.length + n), .ref (32 + C.length)] (hq b C ((.inr (13, fs)) :: (R ++ [(.inl (.byte, 25, .inl f))])) s) = ex d mX12_init 240 [some (.ref (32 + C.length))] [.ref (32 + C.length + n), .ref (32 + C.length)] (hq b C ((.inr (13, fs)) :: (R ++ [(.inl (.byte, 25, .inl (upd f 6 (vp_nar .byte 110))))])) s) := by
  rw [X12_init_234, X12_init_235, X12_init_237, X12_init_239, show kbs (hq b C ((.inr (13, fs)) :: (R ++ [(.inl (.byte, 25, .inl f))])) s) (32 + C.length + n) 6 110 = _ from hq_bl (j := 6) (x := 110) hn (by decide)]
  rfl
theorem mw_7 {f : Nat → Int32} (hn : R.length + 1 = n) : ex d mX12_init 240 [some (.ref (32 + C.length))] [.ref (32 + C.length + n), .ref (32 + C.length)] (hq b C ((.inr (13, fs)) :: (R ++ [(.inl (.byte, 25, .inl f))])) s) = ex d mX12_init 246 [some (.ref (32 + C.length))] [.ref (32 + C.length + n), .ref (32 + C.length)] (hq b C ((.inr (13, fs)) :: (R ++ [(.inl (.byte, 25, .inl (upd f 7 (vp_nar .byte 110))))])) s) := by
  rw [X12_init_240, X12_init_241, X12_init_243, X12_init_245, show kbs (hq b C ((.inr (13, fs)) :: (R ++ [(.inl (.byte, 25, .inl f))])) s) (32 + C.length + n) 7 110 = _ from hq_bl (j := 7) (x := 110) hn (by decide)]
  rfl
theorem mw_8 {f : Nat → Int32} (hn : R.length + 1 = n) : ex d mX12_init 246 [some (.ref (32 + C.length))] [.ref (32 + C.length + n), .ref (32 + C.length)] (hq b C ((.inr (13, fs)) :: (R ++ [(.inl (.byte, 25, .inl f))])) s) = ex d mX12_init 252 [some (.ref (32 + C.length))] [.ref (32 + C.length + n), .ref (32 + C.length)] (hq b C ((.inr (13, fs)) :: (R ++ [(.inl (.byte, 25, .inl (upd f 8 (vp_nar .byte 101))))])) s) := by
  rw [X12_init_246, X12_init_247, X12_init_249, X12_init_251, show kbs (hq b C ((.inr (13, fs)) :: (R ++ [(.inl (.byte, 25, .inl f))])) s) (32 + C.length + n) 8 101 = _ from hq_bl (j := 8) (x := 101) hn (by decide)]
  rfl
theorem mw_9 {f : Nat → Int32} (hn : R.length + 1 = n) : ex d mX12_init 252 [some (.ref (32 + C.length))] [.ref (32 + C.length + n), .ref (32 + C.length)] (hq b C ((.inr (13, fs)) :: (R ++ [(.inl (.byte, 25, .inl f))])) s) = ex d mX12_init 258 [some (.ref (32 + C.length))] [.ref (32 + C.length + n), .ref (32 + C.length)] (hq b C ((.inr (13, fs)) :: (R ++ [(.inl (.byte, 25, .inl (upd f 9 (vp_nar .byte 114))))])) s) := by
  rw [X12_init_252, X12_init_253, X12_init_255, X12_init_257, show kbs (hq b C ((.inr (13, fs)) :: (R ++ [(.inl (.byte, 25, .inl f))])) s) (32 + C.length + n) 9 114 = _ from hq_bl (j := 9) (x := 114) hn (by decide)]
  rfl
theorem mw_10 {f : Nat → Int32} (hn : R.length + 1 = n) : ex d mX12_init 258 [some (.ref (32 + C.length))] [.ref (32 + C.length + n), .ref (32 + C.length)] (hq b C ((.inr (13, fs)) :: (R ++ [(.inl (.byte, 25, .inl f))])) s) = ex d mX12_init 264 [some (.ref (32 + C.length))] [.ref (32 + C.length + n), .ref (32 + C.length)] (hq b C ((.inr (13, fs)) :: (R ++ [(.inl (.byte, 25, .inl (upd f 10 (vp_nar .byte 98))))])) s) := by
  rw [X12_init_258, X12_init_259, X12_init_261, X12_init_263, show kbs (hq b C ((.inr (13, fs)) :: (R ++ [(.inl (.byte, 25, .inl f))])) s) (32 + C.length + n) 10 98 = _ from hq_bl (j := 10) (x := 98) hn (by decide)]
  rfl
theorem mw_11 {f : Nat → Int32} (hn : R.length + 1 = n) : ex d mX12_init 264 [some (.ref (32 + C.length))] [.ref (32 + C.length + n), .ref (32 + C.length)] (hq b C ((.inr (13, fs)) :: (R ++ [(.inl (.byte, 25, .inl f))])) s) = ex d mX12_init 270 [some (.ref (32 + C.length))] [.ref (32 + C.length + n), .ref (32 + C.length)] (hq b C ((.inr (13, fs)) :: (R ++ [(.inl (.byte, 25, .inl (upd f 11 (vp_nar .byte 97))))])) s) := by
  rw [X12_init_264, X12_init_265, X12_init_267, X12_init_269, show kbs (hq b C ((.inr (13, fs)) :: (R ++ [(.inl (.byte, 25, .inl f))])) s) (32 + C.length + n) 11 97 = _ from hq_bl (j := 11) (x := 97) hn (by decide)]
  rfl
theorem mw_12 {f : Nat → Int32} (hn : R.length + 1 = n) : ex d mX12_init 270 [some (.ref (32 + C.length))] [.ref (32 + C.length + n), .ref (32 + C.length)] (hq b C ((.inr (13, fs)) :: (R ++ [(.inl (.byte, 25, .inl f))])) s) = ex d mX12_init 276 [some (.ref (32 + C.length))] [.ref (32 + C.length + n), .ref (32 + C.length)] (hq b C ((.inr (13, fs)) :: (R ++ [(.inl (.byte, 25, .inl (upd f 12 (vp_nar .byte 108))))])) s) := by
  rw [X12_init_270, X12_init_271, X12_init_273, X12_init_275, show kbs (hq b C ((.inr (13, fs)) :: (R ++ [(.inl (.byte, 25, .inl f))])) s) (32 + C.length + n) 12 108 = _ from hq_bl (j := 12) (x := 108) hn (by decide)]
  rfl
theorem mw_13 {f : Nat → Int32} (hn : R.length + 1 = n) : ex d mX12_init 276 [some (.ref (32 + C.length))] [.ref (32 + C.length + n), .ref (32 + C.length)] (hq b C ((.inr (13, fs)) :: (R ++ [(.inl (.byte, 25, .inl f))])) s) = ex d mX12_init 282 [some (.ref (32 + C.length))] [.ref (32 + C.length + n), .ref (32 + C.length)] (hq b C ((.inr (13, fs)) :: (R ++ [(.inl (.byte, 25, .inl (upd f 13 (vp_nar .byte 108))))])) s) := by
  rw [X12_init_276, X12_init_277, X12_init_279, X12_init_281, show kbs (hq b C ((.inr (13, fs)) :: (R ++ [(.inl (.byte, 25, .inl f))])) s) (32 + C.length + n) 13 108 = _ from hq_bl (j := 13) (x := 108) hn (by decide)]
  rfl
theorem mw_14 {f : Nat → Int32} (hn : R.length + 1 = n) : ex d mX12_init 282 [some (.ref (32 + C.length))] [.ref (32 + C.length + n), .ref (32 + C.length)] (hq b C ((.inr (13, fs)) :: (R ++ [(.inl (.byte, 25, .inl f))])) s) = ex d mX12_init 287 [some (.ref (32 + C.length))] [.ref (32 + C.length + n), .ref (32 + C.length)] (hq b C ((.inr (13, fs)) :: (R ++ [(.inl (.byte, 25, .inl (upd f 14 (vp_nar .byte 0))))])) s) := by
  rw [X12_init_282, X12_init_283, X12_init_285, X12_init_286, show kbs (hq b C ((.inr (13, fs)) :: (R ++ [(.inl (.byte, 25, .inl f))])) s) (32 + C.length + n) 14 0 = _ from hq_bl (j := 14) (x := 0) hn (by decide)]
  rfl
theorem mw_15 {f : Nat → Int32} (hn : R.length + 1 = n) : ex d mX12_init 287 [some (.ref (32 + C.length))] [.ref (32 + C.length + n), .ref (32 + C.length)] (hq b C ((.inr (13, fs)) :: (R ++ [(.inl (.byte, 25, .inl f))])) s) = ex d mX12_init 293 [some (.ref (32 + C.length))] [.ref (32 + C.length + n), .ref (32 + C.length)] (hq b C ((.inr (13, fs)) :: (R ++ [(.inl (.byte, 25, .inl (upd f 15 (vp_nar .byte 99))))])) s) := by
  rw [X12_init_287, X12_init_288, X12_init_290, X12_init_292, show kbs (hq b C ((.inr (13, fs)) :: (R ++ [(.inl (.byte, 25, .inl f))])) s) (32 + C.length + n) 15 99 = _ from hq_bl (j := 15) (x := 99) hn (by decide)]
  rfl
theorem mw_16 {f : Nat → Int32} (hn : R.length + 1 = n) : ex d mX12_init 293 [some (.ref (32 + C.length))] [.ref (32 + C.length + n), .ref (32 + C.length)] (hq b C ((.inr (13, fs)) :: (R ++ [(.inl (.byte, 25, .inl f))])) s) = ex d mX12_init 299 [some (.ref (32 + C.length))] [.ref (32 + C.length + n), .ref (32 + C.length)] (hq b C ((.inr (13, fs)) :: (R ++ [(.inl (.byte, 25, .inl (upd f 16 (vp_nar .byte 97))))])) s) := by
  rw [X12_init_293, X12_init_294, X12_init_296, X12_init_298, show kbs (hq b C ((.inr (13, fs)) :: (R ++ [(.inl (.byte, 25, .inl f))])) s) (32 + C.length + n) 16 97 = _ from hq_bl (j := 16) (x := 97) hn (by decide)]
  rfl
theorem mw_17 {f : Nat → Int32} (hn : R.length + 1 = n) : ex d mX12_init 299 [some (.ref (32 + C.length))] [.ref (32 + C.length + n), .ref (32 + C.length)] (hq b C ((.inr (13, fs)) :: (R ++ [(.inl (.byte, 25, .inl f))])) s) = ex d mX12_init 305 [some (.ref (32 + C.length))] [.ref (32 + C.length + n), .ref (32 + C.length)] (hq b C ((.inr (13, fs)) :: (R ++ [(.inl (.byte, 25, .inl (upd f 17 (vp_nar .byte 103))))])) s) := by
  rw [X12_init_299, X12_init_300, X12_init_302, X12_init_304, show kbs (hq b C ((.inr (13, fs)) :: (R ++ [(.inl (.byte, 25, .inl f))])) s) (32 + C.length + n) 17 103 = _ from hq_bl (j := 17) (x := 103) hn (by decide)]
  rfl
theorem mw_18 {f : Nat → Int32} (hn : R.length + 1 = n) : ex d mX12_init 305 [some (.ref (32 + C.length))] [.ref (32 + C.length + n), .ref (32 + C.length)] (hq b C ((.inr (13, fs)) :: (R ++ [(.inl (.byte, 25, .inl f))])) s) = ex d mX12_init 311 [some (.ref (32 + C.length))] [.ref (32 + C.length + n), .ref (32 + C.length)] (hq b C ((.inr (13, fs)) :: (R ++ [(.inl (.byte, 25, .inl (upd f 18 (vp_nar .byte 101))))])) s) := by
  rw [X12_init_305, X12_init_306, X12_init_308, X12_init_310, show kbs (hq b C ((.inr (13, fs)) :: (R ++ [(.inl (.byte, 25, .inl f))])) s) (32 + C.length + n) 18 101 = _ from hq_bl (j := 18) (x := 101) hn (by decide)]
  rfl
theorem mw_19 {f : Nat → Int32} (hn : R.length + 1 = n) : ex d mX12_init 311 [some (.ref (32 + C.length))] [.ref (32 + C.length + n), .ref (32 + C.length)] (hq b C ((.inr (13, fs)) :: (R ++ [(.inl (.byte, 25, .inl f))])) s) = ex d mX12_init 316 [some (.ref (32 + C.length))] [.ref (32 + C.length + n), .ref (32 + C.length)] (hq b C ((.inr (13, fs)) :: (R ++ [(.inl (.byte, 25, .inl (upd f 19 (vp_nar .byte 0))))])) s) := by
  rw [X12_init_311, X12_init_312, X12_init_314, X12_init_315, show kbs (hq b C ((.inr (13, fs)) :: (R ++ [(.inl (.byte, 25, .inl f))])) s) (32 + C.length + n) 19 0 = _ from hq_bl (j := 19) (x := 0) hn (by decide)]
  rfl
theorem mw_20 {f : Nat → Int32} (hn : R.length + 1 = n) : ex d mX12_init 316 [some (.ref (32 + C.length))] [.ref (32 + C.length + n), .ref (32 + C.length)] (hq b C ((.inr (13, fs)) :: (R ++ [(.inl (.byte, 25, .inl f))])) s) = ex d mX12_init 322 [some (.ref (32 + C.length))] [.ref (32 + C.length + n), .ref (32 + C.length)] (hq b C ((.inr (13, fs)) :: (R ++ [(.inl (.byte, 25, .inl (upd f 20 (vp_nar .byte 115))))])) s) := by
  rw [X12_init_316, X12_init_317, X12_init_319, X12_init_321, show kbs (hq b C ((.inr (13, fs)) :: (R ++ [(.inl (.byte, 25, .inl f))])) s) (32 + C.length + n) 20 115 = _ from hq_bl (j := 20) (x := 115) hn (by decide)]
  rfl
theorem mw_21 {f : Nat → Int32} (hn : R.length + 1 = n) : ex d mX12_init 322 [some (.ref (32 + C.length))] [.ref (32 + C.length + n), .ref (32 + C.length)] (hq b C ((.inr (13, fs)) :: (R ++ [(.inl (.byte, 25, .inl f))])) s) = ex d mX12_init 328 [some (.ref (32 + C.length))] [.ref (32 + C.length + n), .ref (32 + C.length)] (hq b C ((.inr (13, fs)) :: (R ++ [(.inl (.byte, 25, .inl (upd f 21 (vp_nar .byte 104))))])) s) := by
  rw [X12_init_322, X12_init_323, X12_init_325, X12_init_327, show kbs (hq b C ((.inr (13, fs)) :: (R ++ [(.inl (.byte, 25, .inl f))])) s) (32 + C.length + n) 21 104 = _ from hq_bl (j := 21) (x := 104) hn (by decide)]
  rfl
theorem mw_22 {f : Nat → Int32} (hn : R.length + 1 = n) : ex d mX12_init 328 [some (.ref (32 + C.length))] [.ref (32 + C.length + n), .ref (32 + C.length)] (hq b C ((.inr (13, fs)) :: (R ++ [(.inl (.byte, 25, .inl f))])) s) = ex d mX12_init 334 [some (.ref (32 + C.length))] [.ref (32 + C.length + n), .ref (32 + C.length)] (hq b C ((.inr (13, fs)) :: (R ++ [(.inl (.byte, 25, .inl (upd f 22 (vp_nar .byte 97))))])) s) := by
  rw [X12_init_328, X12_init_329, X12_init_331, X12_init_333, show kbs (hq b C ((.inr (13, fs)) :: (R ++ [(.inl (.byte, 25, .inl f))])) s) (32 + C.length + n) 22 97 = _ from hq_bl (j := 22) (x := 97) hn (by decide)]
  rfl
theorem mw_23 {f : Nat → Int32} (hn : R.length + 1 = n) : ex d mX12_init 334 [some (.ref (32 + C.length))] [.ref (32 + C.length + n), .ref (32 + C.length)] (hq b C ((.inr (13, fs)) :: (R ++ [(.inl (.byte, 25, .inl f))])) s) = ex d mX12_init 340 [some (.ref (32 + C.length))] [.ref (32 + C.length + n), .ref (32 + C.length)] (hq b C ((.inr (13, fs)) :: (R ++ [(.inl (.byte, 25, .inl (upd f 23 (vp_nar .byte 102))))])) s) := by
  rw [X12_init_334, X12_init_335, X12_init_337, X12_init_339, show kbs (hq b C ((.inr (13, fs)) :: (R ++ [(.inl (.byte, 25, .inl f))])) s) (32 + C.length + n) 23 102 = _ from hq_bl (j := 23) (x := 102) hn (by decide)]
  rfl
theorem mw_24 {f : Nat → Int32} (hn : R.length + 1 = n) : ex d mX12_init 340 [some (.ref (32 + C.length))] [.ref (32 + C.length + n), .ref (32 + C.length)] (hq b C ((.inr (13, fs)) :: (R ++ [(.inl (.byte, 25, .inl f))])) s) = ex d mX12_init 346 [some (.ref (32 + C.length))] [.ref (32 + C.length + n), .ref (32 + C.length)] (hq b C ((.inr (13, fs)) :: (R ++ [(.inl (.byte, 25, .inl (upd f 24 (vp_nar .byte 116))))])) s) := by
  rw [X12_init_340, X12_init_341, X12_init_343, X12_init_345, show kbs (hq b C ((.inr (13, fs)) :: (R ++ [(.inl (.byte, 25, .inl f))])) s) (32 + C.length + n) 24 116 = _ from hq_bl (j := 24) (x := 116) hn (by decide)]
  rfl
theorem mt_words (hf : fs.length = 54) (hn : R.length + 1 = n) : ex d mX12_init 199 [some (.ref (32 + C.length))] [] (hq b C ((.inr (13, fs)) :: R) s) = ex d mX12_init 349 [some (.ref (32 + C.length))] [] (hq b C ((.inr (13, fs.set 46 (.ref (32 + C.length + n)))) :: (R ++ [(.inl (.byte, 25, .inl (upd (upd (upd (upd (upd (upd (upd (upd (upd (upd (upd (upd (upd (upd (upd (upd (upd (upd (upd (upd (upd (upd (upd (upd (upd (fun _ => 0) 0 (vp_nar .byte 111)) 1 (vp_nar .byte 117)) 2 (vp_nar .byte 116)) 3 (vp_nar .byte 101)) 4 (vp_nar .byte 114)) 5 (vp_nar .byte 105)) 6 (vp_nar .byte 110)) 7 (vp_nar .byte 110)) 8 (vp_nar .byte 101)) 9 (vp_nar .byte 114)) 10 (vp_nar .byte 98)) 11 (vp_nar .byte 97)) 12 (vp_nar .byte 108)) 13 (vp_nar .byte 108)) 14 (vp_nar .byte 0)) 15 (vp_nar .byte 99)) 16 (vp_nar .byte 97)) 17 (vp_nar .byte 103)) 18 (vp_nar .byte 101)) 19 (vp_nar .byte 0)) 20 (vp_nar .byte 115)) 21 (vp_nar .byte 104)) 22 (vp_nar .byte 97)) 23 (vp_nar .byte 102)) 24 (vp_nar .byte 116))))])) (s + 25)) := by
  refine (mt_199 hn).trans ?_
  refine (mw_0 hn).trans ?_
  refine (mw_1 hn).trans ?_
  refine (mw_2 hn).trans ?_
  refine (mw_3 hn).trans ?_
  refine (mw_4 hn).trans ?_
  refine (mw_5 hn).trans ?_
  refine (mw_6 hn).trans ?_
  refine (mw_7 hn).trans ?_
  refine (mw_8 hn).trans ?_
  refine (mw_9 hn).trans ?_
  refine (mw_10 hn).trans ?_
  refine (mw_11 hn).trans ?_
  refine (mw_12 hn).trans ?_
  refine (mw_13 hn).trans ?_
  refine (mw_14 hn).trans ?_
  refine (mw_15 hn).trans ?_
  refine (mw_16 hn).trans ?_
  refine (mw_17 hn).trans ?_
  refine (mw_18 hn).trans ?_
  refine (mw_19 hn).trans ?_
  refine (mw_20 hn).trans ?_
  refine (mw_21 hn).trans ?_
  refine (mw_22 hn).trans ?_
  refine (mw_23 hn).trans ?_
  refine (mw_24 hn).trans ?_
  rw [X12_init_346, hq_p0 (fs := fs) rfl (by omega) rfl]
  rfl
theorem mf_349 {f : Nat → Int32} (h0 : fs[0]? = some (.ref (32 + C.length + 1))) : ex d mX12_init 349 [some (.ref (32 + C.length))] [] (hq b C ((.inr (13, fs)) :: (.inl (.int, 676, .inl f)) :: R) s) = ex d mX12_init 357 [some (.ref (32 + C.length))] [] (hq b C ((.inr (13, fs)) :: (.inl (.int, 676, .inl (upd f 0 100))) :: R) s) := by
  rw [X12_init_349, X12_init_350, hq_g0 (fs := fs) rfl h0]
  show ex d mX12_init 353 [some (.ref (32 + C.length))] [.ref (32 + C.length + 1)] (hq b C ((.inr (13, fs)) :: (.inl (.int, 676, .inl f)) :: R) s) = _
  rw [X12_init_353, X12_init_354, X12_init_356, show kis_ (hq b C ((.inr (13, fs)) :: (.inl (.int, 676, .inl f)) :: R) s) (32 + C.length + 1) 0 100 = _ from hq_is (i := 1) (n := 676) (a := 0) (x := 100) rfl (by decide) (by decide)]
  rfl
theorem mf_357 {f : Nat → Int32} (h0 : fs[0]? = some (.ref (32 + C.length + 1))) : ex d mX12_init 357 [some (.ref (32 + C.length))] [] (hq b C ((.inr (13, fs)) :: (.inl (.int, 676, .inl f)) :: R) s) = ex d mX12_init 364 [some (.ref (32 + C.length))] [] (hq b C ((.inr (13, fs)) :: (.inl (.int, 676, .inl (upd f 2 1))) :: R) s) := by
  rw [X12_init_357, X12_init_358, hq_g0 (fs := fs) rfl h0]
  show ex d mX12_init 361 [some (.ref (32 + C.length))] [.ref (32 + C.length + 1)] (hq b C ((.inr (13, fs)) :: (.inl (.int, 676, .inl f)) :: R) s) = _
  rw [X12_init_361, X12_init_362, X12_init_363, show kis_ (hq b C ((.inr (13, fs)) :: (.inl (.int, 676, .inl f)) :: R) s) (32 + C.length + 1) 2 1 = _ from hq_is (i := 1) (n := 676) (a := 2) (x := 1) rfl (by decide) (by decide)]
  rfl
theorem mf_364 {f : Nat → Int32} (h0 : fs[0]? = some (.ref (32 + C.length + 1))) : ex d mX12_init 364 [some (.ref (32 + C.length))] [] (hq b C ((.inr (13, fs)) :: (.inl (.int, 676, .inl f)) :: R) s) = ex d mX12_init 371 [some (.ref (32 + C.length))] [] (hq b C ((.inr (13, fs)) :: (.inl (.int, 676, .inl (upd f 3 4))) :: R) s) := by
  rw [X12_init_364, X12_init_365, hq_g0 (fs := fs) rfl h0]
  show ex d mX12_init 368 [some (.ref (32 + C.length))] [.ref (32 + C.length + 1)] (hq b C ((.inr (13, fs)) :: (.inl (.int, 676, .inl f)) :: R) s) = _
  rw [X12_init_368, X12_init_369, X12_init_370, show kis_ (hq b C ((.inr (13, fs)) :: (.inl (.int, 676, .inl f)) :: R) s) (32 + C.length + 1) 3 4 = _ from hq_is (i := 1) (n := 676) (a := 3) (x := 4) rfl (by decide) (by decide)]
  rfl
theorem mf_371 {f : Nat → Int32} (h0 : fs[0]? = some (.ref (32 + C.length + 1))) : ex d mX12_init 371 [some (.ref (32 + C.length))] [] (hq b C ((.inr (13, fs)) :: (.inl (.int, 676, .inl f)) :: R) s) = ex d mX12_init 380 [some (.ref (32 + C.length))] [] (hq b C ((.inr (13, fs)) :: (.inl (.int, 676, .inl (upd f 4 500))) :: R) s) := by
  rw [X12_init_371, X12_init_372, hq_g0 (fs := fs) rfl h0]
  show ex d mX12_init 375 [some (.ref (32 + C.length))] [.ref (32 + C.length + 1)] (hq b C ((.inr (13, fs)) :: (.inl (.int, 676, .inl f)) :: R) s) = _
  rw [X12_init_375, X12_init_376, X12_init_379, show kis_ (hq b C ((.inr (13, fs)) :: (.inl (.int, 676, .inl f)) :: R) s) (32 + C.length + 1) 4 500 = _ from hq_is (i := 1) (n := 676) (a := 4) (x := 500) rfl (by decide) (by decide)]
  rfl
theorem mf_380 {f : Nat → Int32} (h0 : fs[0]? = some (.ref (32 + C.length + 1))) : ex d mX12_init 380 [some (.ref (32 + C.length))] [] (hq b C ((.inr (13, fs)) :: (.inl (.int, 676, .inl f)) :: R) s) = ex d mX12_init 388 [some (.ref (32 + C.length))] [] (hq b C ((.inr (13, fs)) :: (.inl (.int, 676, .inl (upd f 5 8))) :: R) s) := by
  rw [X12_init_380, X12_init_381, hq_g0 (fs := fs) rfl h0]
  show ex d mX12_init 384 [some (.ref (32 + C.length))] [.ref (32 + C.length + 1)] (hq b C ((.inr (13, fs)) :: (.inl (.int, 676, .inl f)) :: R) s) = _
  rw [X12_init_384, X12_init_385, X12_init_387, show kis_ (hq b C ((.inr (13, fs)) :: (.inl (.int, 676, .inl f)) :: R) s) (32 + C.length + 1) 5 8 = _ from hq_is (i := 1) (n := 676) (a := 5) (x := 8) rfl (by decide) (by decide)]
  rfl
theorem mf_388 {f : Nat → Int32} (h0 : fs[0]? = some (.ref (32 + C.length + 1))) : ex d mX12_init 388 [some (.ref (32 + C.length))] [] (hq b C ((.inr (13, fs)) :: (.inl (.int, 676, .inl f)) :: R) s) = ex d mX12_init 397 [some (.ref (32 + C.length))] [] (hq b C ((.inr (13, fs)) :: (.inl (.int, 676, .inl (upd f 6 10))) :: R) s) := by
  rw [X12_init_388, X12_init_389, hq_g0 (fs := fs) rfl h0]
  show ex d mX12_init 392 [some (.ref (32 + C.length))] [.ref (32 + C.length + 1)] (hq b C ((.inr (13, fs)) :: (.inl (.int, 676, .inl f)) :: R) s) = _
  rw [X12_init_392, X12_init_394, X12_init_396, show kis_ (hq b C ((.inr (13, fs)) :: (.inl (.int, 676, .inl f)) :: R) s) (32 + C.length + 1) 6 10 = _ from hq_is (i := 1) (n := 676) (a := 6) (x := 10) rfl (by decide) (by decide)]
  rfl
theorem mf_397 {f : Nat → Int32} (h0 : fs[0]? = some (.ref (32 + C.length + 1))) : ex d mX12_init 397 [some (.ref (32 + C.length))] [] (hq b C ((.inr (13, fs)) :: (.inl (.int, 676, .inl f)) :: R) s) = ex d mX12_init 406 [some (.ref (32 + C.length))] [] (hq b C ((.inr (13, fs)) :: (.inl (.int, 676, .inl (upd f 7 40))) :: R) s) := by
  rw [X12_init_397, X12_init_398, hq_g0 (fs := fs) rfl h0]
  show ex d mX12_init 401 [some (.ref (32 + C.length))] [.ref (32 + C.length + 1)] (hq b C ((.inr (13, fs)) :: (.inl (.int, 676, .inl f)) :: R) s) = _
  rw [X12_init_401, X12_init_403, X12_init_405, show kis_ (hq b C ((.inr (13, fs)) :: (.inl (.int, 676, .inl f)) :: R) s) (32 + C.length + 1) 7 40 = _ from hq_is (i := 1) (n := 676) (a := 7) (x := 40) rfl (by decide) (by decide)]
  rfl
theorem mf_406 {f : Nat → Int32} (h0 : fs[0]? = some (.ref (32 + C.length + 1))) : ex d mX12_init 406 [some (.ref (32 + C.length))] [] (hq b C ((.inr (13, fs)) :: (.inl (.int, 676, .inl f)) :: R) s) = ex d mX12_init 416 [some (.ref (32 + C.length))] [] (hq b C ((.inr (13, fs)) :: (.inl (.int, 676, .inl (upd f 8 240))) :: R) s) := by
  rw [X12_init_406, X12_init_407, hq_g0 (fs := fs) rfl h0]
  show ex d mX12_init 410 [some (.ref (32 + C.length))] [.ref (32 + C.length + 1)] (hq b C ((.inr (13, fs)) :: (.inl (.int, 676, .inl f)) :: R) s) = _
  rw [X12_init_410, X12_init_412, X12_init_415, show kis_ (hq b C ((.inr (13, fs)) :: (.inl (.int, 676, .inl f)) :: R) s) (32 + C.length + 1) 8 240 = _ from hq_is (i := 1) (n := 676) (a := 8) (x := 240) rfl (by decide) (by decide)]
  rfl
end MST2
def fq0 (a : Nat) : List Value := kdef 13
theorem fq0_l (a : Nat) : (fq0 a).length = 54 := rfl
def Qk0 : List kE := []
theorem Qk0_l : Qk0.length = 0 := rfl
def fq1 (a : Nat) : List Value := (fq0 a).set 0 (.ref (a + 1))
theorem fq1_0 (a : Nat) : (fq1 a)[0]? = some (.ref (a + 1)) := by unfold fq1; exact List.getElem?_set_self (by rw [fq0_l]; decide)
theorem fq1_l (a : Nat) : (fq1 a).length = 54 := by unfold fq1; rw [List.length_set]; exact fq0_l a
def Qk1 : List kE := Qk0 ++ [(.inl (.int, 676, .inl (fun _ => 0)))]
theorem Qk1_l : Qk1.length = 1 := by unfold Qk1; rw [List.length_append, Qk0_l]; rfl
theorem mq_0 {d s : Nat} {b : Nat → Option kE} {C : List kE} : ex d mX12_init 4 [some (.ref (32 + C.length))] [] (hq b C ((.inr (13, fq0 (32 + C.length))) :: Qk0) (s + 0)) = ex d mX12_init 13 [some (.ref (32 + C.length))] [] (hq b C ((.inr (13, fq1 (32 + C.length))) :: Qk1) (s + 676)) := mt_4 (fs := fq0 (32 + C.length)) (R := Qk0) (s := s + 0) (n := 1) (fq0_l _) (by rw [Qk0_l])
def fq2 (a : Nat) : List Value := (fq1 a).set 1 (.ref (a + 2))
theorem fq2_0 (a : Nat) : (fq2 a)[0]? = some (.ref (a + 1)) := by unfold fq2; rw [List.getElem?_set_ne (by decide)]; exact fq1_0 a
theorem fq2_l (a : Nat) : (fq2 a).length = 54 := by unfold fq2; rw [List.length_set]; exact fq1_l a
def Qk2 : List kE := Qk1 ++ [(.inl (.int, 676, .inl (fun _ => 0)))]
theorem Qk2_l : Qk2.length = 2 := by unfold Qk2; rw [List.length_append, Qk1_l]; rfl
theorem mq_1 {d s : Nat} {b : Nat → Option kE} {C : List kE} : ex d mX12_init 13 [some (.ref (32 + C.length))] [] (hq b C ((.inr (13, fq1 (32 + C.length))) :: Qk1) (s + 676)) = ex d mX12_init 22 [some (.ref (32 + C.length))] [] (hq b C ((.inr (13, fq2 (32 + C.length))) :: Qk2) (s + 1352)) := mt_13 (fs := fq1 (32 + C.length)) (R := Qk1) (s := s + 676) (n := 2) (fq1_l _) (by rw [Qk1_l])
def fq3 (a : Nat) : List Value := (fq2 a).set 2 (.ref (a + 3))
theorem fq3_0 (a : Nat) : (fq3 a)[0]? = some (.ref (a + 1)) := by unfold fq3; rw [List.getElem?_set_ne (by decide)]; exact fq2_0 a
theorem fq3_l (a : Nat) : (fq3 a).length = 54 := by unfold fq3; rw [List.length_set]; exact fq2_l a
def Qk3 : List kE := Qk2 ++ [(.inl (.int, 5408, .inl (fun _ => 0)))]
theorem Qk3_l : Qk3.length = 3 := by unfold Qk3; rw [List.length_append, Qk2_l]; rfl
theorem mq_2 {d s : Nat} {b : Nat → Option kE} {C : List kE} : ex d mX12_init 22 [some (.ref (32 + C.length))] [] (hq b C ((.inr (13, fq2 (32 + C.length))) :: Qk2) (s + 1352)) = ex d mX12_init 31 [some (.ref (32 + C.length))] [] (hq b C ((.inr (13, fq3 (32 + C.length))) :: Qk3) (s + 6760)) := mt_22 (fs := fq2 (32 + C.length)) (R := Qk2) (s := s + 1352) (n := 3) (fq2_l _) (by rw [Qk2_l])
def fq4 (a : Nat) : List Value := (fq3 a).set 4 (.ref (a + 4))
theorem fq4_0 (a : Nat) : (fq4 a)[0]? = some (.ref (a + 1)) := by unfold fq4; rw [List.getElem?_set_ne (by decide)]; exact fq3_0 a
theorem fq4_l (a : Nat) : (fq4 a).length = 54 := by unfold fq4; rw [List.length_set]; exact fq3_l a
def Qk4 : List kE := Qk3 ++ [(.inl (.byte, 240, .inl (fun _ => 0)))]
theorem Qk4_l : Qk4.length = 4 := by unfold Qk4; rw [List.length_append, Qk3_l]; rfl
theorem mq_3 {d s : Nat} {b : Nat → Option kE} {C : List kE} : ex d mX12_init 31 [some (.ref (32 + C.length))] [] (hq b C ((.inr (13, fq3 (32 + C.length))) :: Qk3) (s + 6760)) = ex d mX12_init 40 [some (.ref (32 + C.length))] [] (hq b C ((.inr (13, fq4 (32 + C.length))) :: Qk4) (s + 7000)) := mt_31 (fs := fq3 (32 + C.length)) (R := Qk3) (s := s + 6760) (n := 4) (fq3_l _) (by rw [Qk3_l])
def fq5 (a : Nat) : List Value := (fq4 a).set 11 (.ref (a + 5))
theorem fq5_0 (a : Nat) : (fq5 a)[0]? = some (.ref (a + 1)) := by unfold fq5; rw [List.getElem?_set_ne (by decide)]; exact fq4_0 a
theorem fq5_l (a : Nat) : (fq5 a).length = 54 := by unfold fq5; rw [List.length_set]; exact fq4_l a
def Qk5 : List kE := Qk4 ++ [(.inl (.int, 20, .inl (fun _ => 0)))]
theorem Qk5_l : Qk5.length = 5 := by unfold Qk5; rw [List.length_append, Qk4_l]; rfl
theorem mq_4 {d s : Nat} {b : Nat → Option kE} {C : List kE} : ex d mX12_init 40 [some (.ref (32 + C.length))] [] (hq b C ((.inr (13, fq4 (32 + C.length))) :: Qk4) (s + 7000)) = ex d mX12_init 48 [some (.ref (32 + C.length))] [] (hq b C ((.inr (13, fq5 (32 + C.length))) :: Qk5) (s + 7020)) := mt_40 (fs := fq4 (32 + C.length)) (R := Qk4) (s := s + 7000) (n := 5) (fq4_l _) (by rw [Qk4_l])
def fq6 (a : Nat) : List Value := (fq5 a).set 15 (.ref (a + 6))
theorem fq6_0 (a : Nat) : (fq6 a)[0]? = some (.ref (a + 1)) := by unfold fq6; rw [List.getElem?_set_ne (by decide)]; exact fq5_0 a
theorem fq6_l (a : Nat) : (fq6 a).length = 54 := by unfold fq6; rw [List.length_set]; exact fq5_l a
def Qk6 : List kE := Qk5 ++ [(.inl (.int, 200, .inl (fun _ => 0)))]
theorem Qk6_l : Qk6.length = 6 := by unfold Qk6; rw [List.length_append, Qk5_l]; rfl
theorem mq_5 {d s : Nat} {b : Nat → Option kE} {C : List kE} : ex d mX12_init 48 [some (.ref (32 + C.length))] [] (hq b C ((.inr (13, fq5 (32 + C.length))) :: Qk5) (s + 7020)) = ex d mX12_init 57 [some (.ref (32 + C.length))] [] (hq b C ((.inr (13, fq6 (32 + C.length))) :: Qk6) (s + 7220)) := mt_48 (fs := fq5 (32 + C.length)) (R := Qk5) (s := s + 7020) (n := 6) (fq5_l _) (by rw [Qk5_l])
def fq7 (a : Nat) : List Value := (fq6 a).set 16 (.ref (a + 7))
theorem fq7_0 (a : Nat) : (fq7 a)[0]? = some (.ref (a + 1)) := by unfold fq7; rw [List.getElem?_set_ne (by decide)]; exact fq6_0 a
theorem fq7_l (a : Nat) : (fq7 a).length = 54 := by unfold fq7; rw [List.length_set]; exact fq6_l a
def Qk7 : List kE := Qk6 ++ [(.inl (.int, 200, .inl (fun _ => 0)))]
theorem Qk7_l : Qk7.length = 7 := by unfold Qk7; rw [List.length_append, Qk6_l]; rfl
theorem mq_6 {d s : Nat} {b : Nat → Option kE} {C : List kE} : ex d mX12_init 57 [some (.ref (32 + C.length))] [] (hq b C ((.inr (13, fq6 (32 + C.length))) :: Qk6) (s + 7220)) = ex d mX12_init 66 [some (.ref (32 + C.length))] [] (hq b C ((.inr (13, fq7 (32 + C.length))) :: Qk7) (s + 7420)) := mt_57 (fs := fq6 (32 + C.length)) (R := Qk6) (s := s + 7220) (n := 7) (fq6_l _) (by rw [Qk6_l])
def fq8 (a : Nat) : List Value := (fq7 a).set 17 (.ref (a + 8))
theorem fq8_0 (a : Nat) : (fq8 a)[0]? = some (.ref (a + 1)) := by unfold fq8; rw [List.getElem?_set_ne (by decide)]; exact fq7_0 a
theorem fq8_l (a : Nat) : (fq8 a).length = 54 := by unfold fq8; rw [List.length_set]; exact fq7_l a
def Qk8 : List kE := Qk7 ++ [(.inl (.int, 4, .inl (fun _ => 0)))]
theorem Qk8_l : Qk8.length = 8 := by unfold Qk8; rw [List.length_append, Qk7_l]; rfl
theorem mq_7 {d s : Nat} {b : Nat → Option kE} {C : List kE} : ex d mX12_init 66 [some (.ref (32 + C.length))] [] (hq b C ((.inr (13, fq7 (32 + C.length))) :: Qk7) (s + 7420)) = ex d mX12_init 73 [some (.ref (32 + C.length))] [] (hq b C ((.inr (13, fq8 (32 + C.length))) :: Qk8) (s + 7424)) := mt_66 (fs := fq7 (32 + C.length)) (R := Qk7) (s := s + 7420) (n := 8) (fq7_l _) (by rw [Qk7_l])
def fq9 (a : Nat) : List Value := (fq8 a).set 19 (.ref (a + 9))
theorem fq9_0 (a : Nat) : (fq9 a)[0]? = some (.ref (a + 1)) := by unfold fq9; rw [List.getElem?_set_ne (by decide)]; exact fq8_0 a
theorem fq9_l (a : Nat) : (fq9 a).length = 54 := by unfold fq9; rw [List.length_set]; exact fq8_l a
def Qk9 : List kE := Qk8 ++ [(.inl (.int, 200, .inl (fun _ => 0)))]
theorem Qk9_l : Qk9.length = 9 := by unfold Qk9; rw [List.length_append, Qk8_l]; rfl
theorem mq_8 {d s : Nat} {b : Nat → Option kE} {C : List kE} : ex d mX12_init 73 [some (.ref (32 + C.length))] [] (hq b C ((.inr (13, fq8 (32 + C.length))) :: Qk8) (s + 7424)) = ex d mX12_init 82 [some (.ref (32 + C.length))] [] (hq b C ((.inr (13, fq9 (32 + C.length))) :: Qk9) (s + 7624)) := mt_73 (fs := fq8 (32 + C.length)) (R := Qk8) (s := s + 7424) (n := 9) (fq8_l _) (by rw [Qk8_l])
def fq10 (a : Nat) : List Value := (fq9 a).set 20 (.ref (a + 10))
theorem fq10_0 (a : Nat) : (fq10 a)[0]? = some (.ref (a + 1)) := by unfold fq10; rw [List.getElem?_set_ne (by decide)]; exact fq9_0 a
theorem fq10_l (a : Nat) : (fq10 a).length = 54 := by unfold fq10; rw [List.length_set]; exact fq9_l a
def Qk10 : List kE := Qk9 ++ [(.inl (.int, 200, .inl (fun _ => 0)))]
theorem Qk10_l : Qk10.length = 10 := by unfold Qk10; rw [List.length_append, Qk9_l]; rfl
theorem mq_9 {d s : Nat} {b : Nat → Option kE} {C : List kE} : ex d mX12_init 82 [some (.ref (32 + C.length))] [] (hq b C ((.inr (13, fq9 (32 + C.length))) :: Qk9) (s + 7624)) = ex d mX12_init 91 [some (.ref (32 + C.length))] [] (hq b C ((.inr (13, fq10 (32 + C.length))) :: Qk10) (s + 7824)) := mt_82 (fs := fq9 (32 + C.length)) (R := Qk9) (s := s + 7624) (n := 10) (fq9_l _) (by rw [Qk9_l])
def fq11 (a : Nat) : List Value := (fq10 a).set 21 (.ref (a + 11))
theorem fq11_0 (a : Nat) : (fq11 a)[0]? = some (.ref (a + 1)) := by unfold fq11; rw [List.getElem?_set_ne (by decide)]; exact fq10_0 a
theorem fq11_l (a : Nat) : (fq11 a).length = 54 := by unfold fq11; rw [List.length_set]; exact fq10_l a
def Qk11 : List kE := Qk10 ++ [(.inl (.long, 200, .inr (.inl (fun _ => 0))))]
theorem Qk11_l : Qk11.length = 11 := by unfold Qk11; rw [List.length_append, Qk10_l]; rfl
theorem mq_10 {d s : Nat} {b : Nat → Option kE} {C : List kE} : ex d mX12_init 91 [some (.ref (32 + C.length))] [] (hq b C ((.inr (13, fq10 (32 + C.length))) :: Qk10) (s + 7824)) = ex d mX12_init 100 [some (.ref (32 + C.length))] [] (hq b C ((.inr (13, fq11 (32 + C.length))) :: Qk11) (s + 8024)) := mt_91 (fs := fq10 (32 + C.length)) (R := Qk10) (s := s + 7824) (n := 11) (fq10_l _) (by rw [Qk10_l])
def fq12 (a : Nat) : List Value := (fq11 a).set 23 (.ref (a + 12))
theorem fq12_0 (a : Nat) : (fq12 a)[0]? = some (.ref (a + 1)) := by unfold fq12; rw [List.getElem?_set_ne (by decide)]; exact fq11_0 a
theorem fq12_l (a : Nat) : (fq12 a).length = 54 := by unfold fq12; rw [List.length_set]; exact fq11_l a
def Qk12 : List kE := Qk11 ++ [(.inl (.int, 200, .inl (fun _ => 0)))]
theorem Qk12_l : Qk12.length = 12 := by unfold Qk12; rw [List.length_append, Qk11_l]; rfl
theorem mq_11 {d s : Nat} {b : Nat → Option kE} {C : List kE} : ex d mX12_init 100 [some (.ref (32 + C.length))] [] (hq b C ((.inr (13, fq11 (32 + C.length))) :: Qk11) (s + 8024)) = ex d mX12_init 109 [some (.ref (32 + C.length))] [] (hq b C ((.inr (13, fq12 (32 + C.length))) :: Qk12) (s + 8224)) := mt_100 (fs := fq11 (32 + C.length)) (R := Qk11) (s := s + 8024) (n := 12) (fq11_l _) (by rw [Qk11_l])
def fq13 (a : Nat) : List Value := (fq12 a).set 24 (.ref (a + 13))
theorem fq13_0 (a : Nat) : (fq13 a)[0]? = some (.ref (a + 1)) := by unfold fq13; rw [List.getElem?_set_ne (by decide)]; exact fq12_0 a
theorem fq13_l (a : Nat) : (fq13 a).length = 54 := by unfold fq13; rw [List.length_set]; exact fq12_l a
def Qk13 : List kE := Qk12 ++ [(.inl (.long, 200, .inr (.inl (fun _ => 0))))]
theorem Qk13_l : Qk13.length = 13 := by unfold Qk13; rw [List.length_append, Qk12_l]; rfl
theorem mq_12 {d s : Nat} {b : Nat → Option kE} {C : List kE} : ex d mX12_init 109 [some (.ref (32 + C.length))] [] (hq b C ((.inr (13, fq12 (32 + C.length))) :: Qk12) (s + 8224)) = ex d mX12_init 118 [some (.ref (32 + C.length))] [] (hq b C ((.inr (13, fq13 (32 + C.length))) :: Qk13) (s + 8424)) := mt_109 (fs := fq12 (32 + C.length)) (R := Qk12) (s := s + 8224) (n := 13) (fq12_l _) (by rw [Qk12_l])
def fq14 (a : Nat) : List Value := (fq13 a).set 31 (.ref (a + 14))
theorem fq14_0 (a : Nat) : (fq14 a)[0]? = some (.ref (a + 1)) := by unfold fq14; rw [List.getElem?_set_ne (by decide)]; exact fq13_0 a
theorem fq14_l (a : Nat) : (fq14 a).length = 54 := by unfold fq14; rw [List.length_set]; exact fq13_l a
def Qk14 : List kE := Qk13 ++ [(.inl (.boolean, 200, .inl (fun _ => 0)))]
theorem Qk14_l : Qk14.length = 14 := by unfold Qk14; rw [List.length_append, Qk13_l]; rfl
theorem mq_13 {d s : Nat} {b : Nat → Option kE} {C : List kE} : ex d mX12_init 118 [some (.ref (32 + C.length))] [] (hq b C ((.inr (13, fq13 (32 + C.length))) :: Qk13) (s + 8424)) = ex d mX12_init 127 [some (.ref (32 + C.length))] [] (hq b C ((.inr (13, fq14 (32 + C.length))) :: Qk14) (s + 8624)) := mt_118 (fs := fq13 (32 + C.length)) (R := Qk13) (s := s + 8424) (n := 14) (fq13_l _) (by rw [Qk13_l])
def fq15 (a : Nat) : List Value := (fq14 a).set 32 (.ref (a + 15))
theorem fq15_0 (a : Nat) : (fq15 a)[0]? = some (.ref (a + 1)) := by unfold fq15; rw [List.getElem?_set_ne (by decide)]; exact fq14_0 a
theorem fq15_l (a : Nat) : (fq15 a).length = 54 := by unfold fq15; rw [List.length_set]; exact fq14_l a
def Qk15 : List kE := Qk14 ++ [(.inl (.long, 1600, .inr (.inl (fun _ => 0))))]
theorem Qk15_l : Qk15.length = 15 := by unfold Qk15; rw [List.length_append, Qk14_l]; rfl
theorem mq_14 {d s : Nat} {b : Nat → Option kE} {C : List kE} : ex d mX12_init 127 [some (.ref (32 + C.length))] [] (hq b C ((.inr (13, fq14 (32 + C.length))) :: Qk14) (s + 8624)) = ex d mX12_init 136 [some (.ref (32 + C.length))] [] (hq b C ((.inr (13, fq15 (32 + C.length))) :: Qk15) (s + 10224)) := mt_127 (fs := fq14 (32 + C.length)) (R := Qk14) (s := s + 8624) (n := 15) (fq14_l _) (by rw [Qk14_l])
def fq16 (a : Nat) : List Value := (fq15 a).set 33 (.ref (a + 16))
theorem fq16_0 (a : Nat) : (fq16 a)[0]? = some (.ref (a + 1)) := by unfold fq16; rw [List.getElem?_set_ne (by decide)]; exact fq15_0 a
theorem fq16_l (a : Nat) : (fq16 a).length = 54 := by unfold fq16; rw [List.length_set]; exact fq15_l a
def Qk16 : List kE := Qk15 ++ [(.inl (.boolean, 400, .inl (fun _ => 0)))]
theorem Qk16_l : Qk16.length = 16 := by unfold Qk16; rw [List.length_append, Qk15_l]; rfl
theorem mq_15 {d s : Nat} {b : Nat → Option kE} {C : List kE} : ex d mX12_init 136 [some (.ref (32 + C.length))] [] (hq b C ((.inr (13, fq15 (32 + C.length))) :: Qk15) (s + 10224)) = ex d mX12_init 145 [some (.ref (32 + C.length))] [] (hq b C ((.inr (13, fq16 (32 + C.length))) :: Qk16) (s + 10624)) := mt_136 (fs := fq15 (32 + C.length)) (R := Qk15) (s := s + 10224) (n := 16) (fq15_l _) (by rw [Qk15_l])
def fq17 (a : Nat) : List Value := (fq16 a).set 34 (.ref (a + 17))
theorem fq17_0 (a : Nat) : (fq17 a)[0]? = some (.ref (a + 1)) := by unfold fq17; rw [List.getElem?_set_ne (by decide)]; exact fq16_0 a
theorem fq17_l (a : Nat) : (fq17 a).length = 54 := by unfold fq17; rw [List.length_set]; exact fq16_l a
def Qk17 : List kE := Qk16 ++ [(.inl (.boolean, 200, .inl (fun _ => 0)))]
theorem Qk17_l : Qk17.length = 17 := by unfold Qk17; rw [List.length_append, Qk16_l]; rfl
theorem mq_16 {d s : Nat} {b : Nat → Option kE} {C : List kE} : ex d mX12_init 145 [some (.ref (32 + C.length))] [] (hq b C ((.inr (13, fq16 (32 + C.length))) :: Qk16) (s + 10624)) = ex d mX12_init 154 [some (.ref (32 + C.length))] [] (hq b C ((.inr (13, fq17 (32 + C.length))) :: Qk17) (s + 10824)) := mt_145 (fs := fq16 (32 + C.length)) (R := Qk16) (s := s + 10624) (n := 17) (fq16_l _) (by rw [Qk16_l])
def fq18 (a : Nat) : List Value := (fq17 a).set 38 (.ref (a + 18))
theorem fq18_0 (a : Nat) : (fq18 a)[0]? = some (.ref (a + 1)) := by unfold fq18; rw [List.getElem?_set_ne (by decide)]; exact fq17_0 a
theorem fq18_l (a : Nat) : (fq18 a).length = 54 := by unfold fq18; rw [List.length_set]; exact fq17_l a
def Qk18 : List kE := Qk17 ++ [(.inl (.int, 8, .inl (fun _ => 0)))]
theorem Qk18_l : Qk18.length = 18 := by unfold Qk18; rw [List.length_append, Qk17_l]; rfl
theorem mq_17 {d s : Nat} {b : Nat → Option kE} {C : List kE} : ex d mX12_init 154 [some (.ref (32 + C.length))] [] (hq b C ((.inr (13, fq17 (32 + C.length))) :: Qk17) (s + 10824)) = ex d mX12_init 162 [some (.ref (32 + C.length))] [] (hq b C ((.inr (13, fq18 (32 + C.length))) :: Qk18) (s + 10832)) := mt_154 (fs := fq17 (32 + C.length)) (R := Qk17) (s := s + 10824) (n := 18) (fq17_l _) (by rw [Qk17_l])
def fq19 (a : Nat) : List Value := (fq18 a).set 39 (.ref (a + 19))
theorem fq19_0 (a : Nat) : (fq19 a)[0]? = some (.ref (a + 1)) := by unfold fq19; rw [List.getElem?_set_ne (by decide)]; exact fq18_0 a
theorem fq19_l (a : Nat) : (fq19 a).length = 54 := by unfold fq19; rw [List.length_set]; exact fq18_l a
def Qk19 : List kE := Qk18 ++ [(.inl (.int, 5, .inl (fun _ => 0)))]
theorem Qk19_l : Qk19.length = 19 := by unfold Qk19; rw [List.length_append, Qk18_l]; rfl
theorem mq_18 {d s : Nat} {b : Nat → Option kE} {C : List kE} : ex d mX12_init 162 [some (.ref (32 + C.length))] [] (hq b C ((.inr (13, fq18 (32 + C.length))) :: Qk18) (s + 10832)) = ex d mX12_init 169 [some (.ref (32 + C.length))] [] (hq b C ((.inr (13, fq19 (32 + C.length))) :: Qk19) (s + 10837)) := mt_162 (fs := fq18 (32 + C.length)) (R := Qk18) (s := s + 10832) (n := 19) (fq18_l _) (by rw [Qk18_l])
def fq20 (a : Nat) : List Value := (fq19 a).set 40 (.ref (a + 20))
theorem fq20_0 (a : Nat) : (fq20 a)[0]? = some (.ref (a + 1)) := by unfold fq20; rw [List.getElem?_set_ne (by decide)]; exact fq19_0 a
theorem fq20_l (a : Nat) : (fq20 a).length = 54 := by unfold fq20; rw [List.length_set]; exact fq19_l a
def Qk20 : List kE := Qk19 ++ [(.inl (.int, 5, .inl (fun _ => 0)))]
theorem Qk20_l : Qk20.length = 20 := by unfold Qk20; rw [List.length_append, Qk19_l]; rfl
theorem mq_19 {d s : Nat} {b : Nat → Option kE} {C : List kE} : ex d mX12_init 169 [some (.ref (32 + C.length))] [] (hq b C ((.inr (13, fq19 (32 + C.length))) :: Qk19) (s + 10837)) = ex d mX12_init 176 [some (.ref (32 + C.length))] [] (hq b C ((.inr (13, fq20 (32 + C.length))) :: Qk20) (s + 10842)) := mt_169 (fs := fq19 (32 + C.length)) (R := Qk19) (s := s + 10837) (n := 20) (fq19_l _) (by rw [Qk19_l])
def fq21 (a : Nat) : List Value := (fq20 a).set 41 (.ref (a + 21))
theorem fq21_0 (a : Nat) : (fq21 a)[0]? = some (.ref (a + 1)) := by unfold fq21; rw [List.getElem?_set_ne (by decide)]; exact fq20_0 a
theorem fq21_l (a : Nat) : (fq21 a).length = 54 := by unfold fq21; rw [List.length_set]; exact fq20_l a
def Qk21 : List kE := Qk20 ++ [(.inl (.int, 30, .inl (fun _ => 0)))]
theorem Qk21_l : Qk21.length = 21 := by unfold Qk21; rw [List.length_append, Qk20_l]; rfl
theorem mq_20 {d s : Nat} {b : Nat → Option kE} {C : List kE} : ex d mX12_init 176 [some (.ref (32 + C.length))] [] (hq b C ((.inr (13, fq20 (32 + C.length))) :: Qk20) (s + 10842)) = ex d mX12_init 184 [some (.ref (32 + C.length))] [] (hq b C ((.inr (13, fq21 (32 + C.length))) :: Qk21) (s + 10872)) := mt_176 (fs := fq20 (32 + C.length)) (R := Qk20) (s := s + 10842) (n := 21) (fq20_l _) (by rw [Qk20_l])
def fq22 (a : Nat) : List Value := (fq21 a).set 42 (.ref (a + 22))
theorem fq22_0 (a : Nat) : (fq22 a)[0]? = some (.ref (a + 1)) := by unfold fq22; rw [List.getElem?_set_ne (by decide)]; exact fq21_0 a
theorem fq22_l (a : Nat) : (fq22 a).length = 54 := by unfold fq22; rw [List.length_set]; exact fq21_l a
def Qk22 : List kE := Qk21 ++ [(.inl (.boolean, 5, .inl (fun _ => 0)))]
theorem Qk22_l : Qk22.length = 22 := by unfold Qk22; rw [List.length_append, Qk21_l]; rfl
theorem mq_21 {d s : Nat} {b : Nat → Option kE} {C : List kE} : ex d mX12_init 184 [some (.ref (32 + C.length))] [] (hq b C ((.inr (13, fq21 (32 + C.length))) :: Qk21) (s + 10872)) = ex d mX12_init 191 [some (.ref (32 + C.length))] [] (hq b C ((.inr (13, fq22 (32 + C.length))) :: Qk22) (s + 10877)) := mt_184 (fs := fq21 (32 + C.length)) (R := Qk21) (s := s + 10872) (n := 22) (fq21_l _) (by rw [Qk21_l])
def fq23 (a : Nat) : List Value := (fq22 a).set 44 (.ref (a + 23))
theorem fq23_0 (a : Nat) : (fq23 a)[0]? = some (.ref (a + 1)) := by unfold fq23; rw [List.getElem?_set_ne (by decide)]; exact fq22_0 a
theorem fq23_l (a : Nat) : (fq23 a).length = 54 := by unfold fq23; rw [List.length_set]; exact fq22_l a
def Qk23 : List kE := Qk22 ++ [(.inl (.byte, 80, .inl (fun _ => 0)))]
theorem Qk23_l : Qk23.length = 23 := by unfold Qk23; rw [List.length_append, Qk22_l]; rfl
theorem mq_22 {d s : Nat} {b : Nat → Option kE} {C : List kE} : ex d mX12_init 191 [some (.ref (32 + C.length))] [] (hq b C ((.inr (13, fq22 (32 + C.length))) :: Qk22) (s + 10877)) = ex d mX12_init 199 [some (.ref (32 + C.length))] [] (hq b C ((.inr (13, fq23 (32 + C.length))) :: Qk23) (s + 10957)) := mt_191 (fs := fq22 (32 + C.length)) (R := Qk22) (s := s + 10877) (n := 23) (fq22_l _) (by rw [Qk22_l])
def fq24 (a : Nat) : List Value := (fq23 a).set 46 (.ref (a + 24))
theorem fq24_0 (a : Nat) : (fq24 a)[0]? = some (.ref (a + 1)) := by unfold fq24; rw [List.getElem?_set_ne (by decide)]; exact fq23_0 a
theorem fq24_l (a : Nat) : (fq24 a).length = 54 := by unfold fq24; rw [List.length_set]; exact fq23_l a
def Qk24 : List kE := Qk23 ++ [(.inl (.byte, 25, .inl (upd (upd (upd (upd (upd (upd (upd (upd (upd (upd (upd (upd (upd (upd (upd (upd (upd (upd (upd (upd (upd (upd (upd (upd (upd (fun _ => 0) 0 (vp_nar .byte 111)) 1 (vp_nar .byte 117)) 2 (vp_nar .byte 116)) 3 (vp_nar .byte 101)) 4 (vp_nar .byte 114)) 5 (vp_nar .byte 105)) 6 (vp_nar .byte 110)) 7 (vp_nar .byte 110)) 8 (vp_nar .byte 101)) 9 (vp_nar .byte 114)) 10 (vp_nar .byte 98)) 11 (vp_nar .byte 97)) 12 (vp_nar .byte 108)) 13 (vp_nar .byte 108)) 14 (vp_nar .byte 0)) 15 (vp_nar .byte 99)) 16 (vp_nar .byte 97)) 17 (vp_nar .byte 103)) 18 (vp_nar .byte 101)) 19 (vp_nar .byte 0)) 20 (vp_nar .byte 115)) 21 (vp_nar .byte 104)) 22 (vp_nar .byte 97)) 23 (vp_nar .byte 102)) 24 (vp_nar .byte 116))))]
theorem Qk24_l : Qk24.length = 24 := by unfold Qk24; rw [List.length_append, Qk23_l]; rfl
theorem mq_23 {d s : Nat} {b : Nat → Option kE} {C : List kE} : ex d mX12_init 199 [some (.ref (32 + C.length))] [] (hq b C ((.inr (13, fq23 (32 + C.length))) :: Qk23) (s + 10957)) = ex d mX12_init 349 [some (.ref (32 + C.length))] [] (hq b C ((.inr (13, fq24 (32 + C.length))) :: Qk24) (s + 10982)) := mt_words (fs := fq23 (32 + C.length)) (R := Qk23) (s := s + 10957) (n := 24) (fq23_l _) (by rw [Qk23_l])
def Qt : List kE := [(.inl (.int, 676, .inl (fun _ => 0))), (.inl (.int, 5408, .inl (fun _ => 0))), (.inl (.byte, 240, .inl (fun _ => 0))), (.inl (.int, 20, .inl (fun _ => 0))), (.inl (.int, 200, .inl (fun _ => 0))), (.inl (.int, 200, .inl (fun _ => 0))), (.inl (.int, 4, .inl (fun _ => 0))), (.inl (.int, 200, .inl (fun _ => 0))), (.inl (.int, 200, .inl (fun _ => 0))), (.inl (.long, 200, .inr (.inl (fun _ => 0)))), (.inl (.int, 200, .inl (fun _ => 0))), (.inl (.long, 200, .inr (.inl (fun _ => 0)))), (.inl (.boolean, 200, .inl (fun _ => 0))), (.inl (.long, 1600, .inr (.inl (fun _ => 0)))), (.inl (.boolean, 400, .inl (fun _ => 0))), (.inl (.boolean, 200, .inl (fun _ => 0))), (.inl (.int, 8, .inl (fun _ => 0))), (.inl (.int, 5, .inl (fun _ => 0))), (.inl (.int, 5, .inl (fun _ => 0))), (.inl (.int, 30, .inl (fun _ => 0))), (.inl (.boolean, 5, .inl (fun _ => 0))), (.inl (.byte, 80, .inl (fun _ => 0))), (.inl (.byte, 25, .inl (upd (upd (upd (upd (upd (upd (upd (upd (upd (upd (upd (upd (upd (upd (upd (upd (upd (upd (upd (upd (upd (upd (upd (upd (upd (fun _ => 0) 0 (vp_nar .byte 111)) 1 (vp_nar .byte 117)) 2 (vp_nar .byte 116)) 3 (vp_nar .byte 101)) 4 (vp_nar .byte 114)) 5 (vp_nar .byte 105)) 6 (vp_nar .byte 110)) 7 (vp_nar .byte 110)) 8 (vp_nar .byte 101)) 9 (vp_nar .byte 114)) 10 (vp_nar .byte 98)) 11 (vp_nar .byte 97)) 12 (vp_nar .byte 108)) 13 (vp_nar .byte 108)) 14 (vp_nar .byte 0)) 15 (vp_nar .byte 99)) 16 (vp_nar .byte 97)) 17 (vp_nar .byte 103)) 18 (vp_nar .byte 101)) 19 (vp_nar .byte 0)) 20 (vp_nar .byte 115)) 21 (vp_nar .byte 104)) 22 (vp_nar .byte 97)) 23 (vp_nar .byte 102)) 24 (vp_nar .byte 116))))]
theorem Qt_e : Qk24 = (.inl (.int, 676, .inl (fun _ => 0))) :: Qt := rfl
theorem fq_0 (a : Nat) : (fq24 a)[0]? = some (.ref (a + 1)) := fq24_0 a
def fF0 : Nat → Int32 := (upd (upd (upd (upd (upd (upd (upd (upd (fun _ => 0) 0 100) 2 1) 3 4) 4 500) 5 8) 6 10) 7 40) 8 240)
def cX12 (a : Nat) : List kE := (.inr (13, fq24 a)) :: (.inl (.int, 676, .inl fF0)) :: Qt
theorem i_X12 {d s : Nat} {b : Nat → Option kE} {C : List kE} : rn (d + 1) mX12_init [.ref (32 + C.length)] (hq b C [(.inr (13, kdef 13))] s) = some (none, hq b C (cX12 (32 + C.length)) (s + 10982)) := by
  rw [X12_init_E, X12_init_0, X12_init_1]
  refine (mq_0 (s := s)).trans ?_
  refine mq_1.trans ?_
  refine mq_2.trans ?_
  refine mq_3.trans ?_
  refine mq_4.trans ?_
  refine mq_5.trans ?_
  refine mq_6.trans ?_
  refine mq_7.trans ?_
  refine mq_8.trans ?_
  refine mq_9.trans ?_
  refine mq_10.trans ?_
  refine mq_11.trans ?_
  refine mq_12.trans ?_
  refine mq_13.trans ?_
  refine mq_14.trans ?_
  refine mq_15.trans ?_
  refine mq_16.trans ?_
  refine mq_17.trans ?_
  refine mq_18.trans ?_
  refine mq_19.trans ?_
  refine mq_20.trans ?_
  refine mq_21.trans ?_
  refine mq_22.trans ?_
  refine mq_23.trans ?_
  rw [Qt_e]
  refine (mf_349 (fq_0 _)).trans ?_
  refine (mf_357 (fq_0 _)).trans ?_
  refine (mf_364 (fq_0 _)).trans ?_
  refine (mf_371 (fq_0 _)).trans ?_
  refine (mf_380 (fq_0 _)).trans ?_
  refine (mf_388 (fq_0 _)).trans ?_
  refine (mf_397 (fq_0 _)).trans ?_
  refine (mf_406 (fq_0 _)).trans ?_
  rw [X12_init_416]
  rfl
theorem fk_e : fk18 = [.ref 33, .ref 37, .ref 51, .ref 65, .int 0, .int 0, .ref 66, .ref 69, .ref 72, .ref 73, .ref 74, .ref 80, .ref 85, .ref 88, .ref 91, .ref 97, .ref 103, .ref 104] := rfl
theorem fq_e : fq24 217 = [.ref 218, .ref 219, .ref 220, .int 0, .ref 221, .int 0, .int 0, .int 0, .int 0, .int 0, .int 0, .ref 222, .int 0, .long 0, .long 0, .ref 223, .ref 224, .ref 225, .int 0, .ref 226, .ref 227, .ref 228, .int 0, .ref 229, .ref 230, .int 0, .int 0, .int 0, .int 0, .long 0, .long 0, .ref 231, .ref 232, .ref 233, .ref 234, .int 0, .int 0, .int 0, .ref 235, .ref 236, .ref 237, .ref 238, .ref 239, .int 0, .ref 240, .int 0, .ref 241, .long 0, .long 0, .long 0, .long 0, .long 0, .long 0, .long 0] := rfl
def cE : List kE := [(.inr (12, [.ref 33, .ref 37, .ref 51, .ref 65, .int 0, .int 0, .ref 66, .ref 69, .ref 72, .ref 73, .ref 74, .ref 80, .ref 85, .ref 88, .ref 91, .ref 97, .ref 103, .ref 104])),
  (.inr (10, [.ref 34, .int 0, .int 0, .int 0, .int 0, .ref 35, .ref 36])),
  (.inl (.int, 240, .inl (fun _ => 0))),
  (.inl (.int, 3, .inl (fun _ => 0))),
  (.inl (.int, 3, .inl (fun _ => 0))),
  (.inr (8, [.int 8, .int 10, .int 40, .int 240, .ref 38, .ref 39, .ref 42, .ref 45, .ref 48])),
  (.inl (.int, 5, .inl (upd (upd (upd (upd (upd (fun _ => 0) 0 100) 1 0) 2 1) 3 4) 4 500))),
  (.inr (7, [.ref 40, .ref 41, .int 0])),
  (.inl (.int, 10, .inl (fun _ => 0))),
  (.inl (.int, 10, .inl (fun _ => 0))),
  (.inr (3, [.ref 43, .ref 44, .int 0])),
  (.inl (.int, 200, .inl (fun _ => 0))),
  (.inl (.int, 200, .inl (fun _ => 0))),
  (.inr (9, [.ref 46, .ref 47, .int 0])),
  (.inl (.int, 10, .inl (fun _ => 0))),
  (.inl (.int, 10, .inl (fun _ => 0))),
  (.inr (5, [.ref 49, .ref 50, .int 0])),
  (.inl (.int, 20, .inl (fun _ => 0))),
  (.inl (.int, 200, .inl (fun _ => 0))),
  (.inr (8, [.int 8, .int 10, .int 40, .int 240, .ref 52, .ref 53, .ref 56, .ref 59, .ref 62])),
  (.inl (.int, 5, .inl (upd (upd (upd (upd (upd (fun _ => 0) 0 100) 1 0) 2 1) 3 4) 4 500))),
  (.inr (7, [.ref 54, .ref 55, .int 0])),
  (.inl (.int, 10, .inl (fun _ => 0))),
  (.inl (.int, 10, .inl (fun _ => 0))),
  (.inr (3, [.ref 57, .ref 58, .int 0])),
  (.inl (.int, 200, .inl (fun _ => 0))),
  (.inl (.int, 200, .inl (fun _ => 0))),
  (.inr (9, [.ref 60, .ref 61, .int 0])),
  (.inl (.int, 10, .inl (fun _ => 0))),
  (.inl (.int, 10, .inl (fun _ => 0))),
  (.inr (5, [.ref 63, .ref 64, .int 0])),
  (.inl (.int, 20, .inl (fun _ => 0))),
  (.inl (.int, 200, .inl (fun _ => 0))),
  (.inl (.object "KnockFinder$State", 8, .inr (.inr (.inr (.inr (va_up (va_up (va_up (va_up (va_up (va_up (va_up (va_up (fun j => if j < 8 then none else some 0) 0 (some 105)) 1 (some 119)) 2 (some 133)) 3 (some 147)) 4 (some 161)) 5 (some 175)) 6 (some 189)) 7 (some 203))))))),
  (.inr (3, [.ref 67, .ref 68, .int 0])),
  (.inl (.int, 200, .inl (fun _ => 0))),
  (.inl (.int, 200, .inl (fun _ => 0))),
  (.inr (3, [.ref 70, .ref 71, .int 0])),
  (.inl (.int, 200, .inl (fun _ => 0))),
  (.inl (.int, 200, .inl (fun _ => 0))),
  (.inr (6, [.long 1, .long 1])),
  (.inr (6, [.long 1, .long 1])),
  (.inr (2, [.int 0, .long 1000000, .long 0, .long 0, .ref 75, .ref 76, .int 0, .int 0, .ref 77, .ref 78, .ref 79, .int (-1), .int 0, .int 0])),
  (.inl (.long, 200, .inr (.inl (fun _ => 0)))),
  (.inl (.long, 200, .inr (.inl (fun _ => 0)))),
  (.inl (.int, 200, .inl (fun _ => 0))),
  (.inl (.long, 200, .inr (.inl (fun _ => 0)))),
  (.inl (.long, 200, .inr (.inl (fun _ => 0)))),
  (.inr (1, [.int 0, .ref 81, .ref 82, .ref 83, .ref 84])),
  (.inl (.int, 200, .inl (fun _ => 0))),
  (.inl (.int, 200, .inl (fun _ => 0))),
  (.inl (.int, 200, .inl (fun _ => 0))),
  (.inl (.long, 200, .inr (.inl (fun _ => 0)))),
  (.inr (4, [.ref 86, .ref 87, .int 0, .int 0, .int 0, .int 0])),
  (.inl (.long, 800, .inr (.inl (fun _ => 0)))),
  (.inl (.int, 200, .inl (fun _ => 0))),
  (.inr (4, [.ref 89, .ref 90, .int 0, .int 0, .int 0, .int 0])),
  (.inl (.long, 800, .inr (.inl (fun _ => 0)))),
  (.inl (.int, 200, .inl (fun _ => 0))),
  (.inr (11, [.ref 92, .ref 93, .ref 94, .ref 95, .int 0, .int 0, .int 0, .ref 96])),
  (.inl (.boolean, 5, .inl (fun _ => 0))),
  (.inl (.int, 5, .inl (fun _ => 0))),
  (.inl (.int, 5, .inl (fun _ => 0))),
  (.inl (.int, 5, .inl (fun _ => 0))),
  (.inl (.int, 30, .inl (fun _ => 0))),
  (.inr (11, [.ref 98, .ref 99, .ref 100, .ref 101, .int 0, .int 0, .int 0, .ref 102])),
  (.inl (.boolean, 5, .inl (fun _ => 0))),
  (.inl (.int, 5, .inl (fun _ => 0))),
  (.inl (.int, 5, .inl (fun _ => 0))),
  (.inl (.int, 5, .inl (fun _ => 0))),
  (.inl (.int, 30, .inl (fun _ => 0))),
  (.inl (.int, 8, .inl (fun _ => 0))),
  (.inl (.int, 699, .inl (fun _ => 0))),
  (.inr (8, [.int 8, .int 10, .int 40, .int 240, .ref 106, .ref 107, .ref 110, .ref 113, .ref 116])),
  (.inl (.int, 5, .inl (upd (upd (upd (upd (upd (fun _ => 0) 0 100) 1 0) 2 1) 3 4) 4 500))),
  (.inr (7, [.ref 108, .ref 109, .int 0])),
  (.inl (.int, 10, .inl (fun _ => 0))),
  (.inl (.int, 10, .inl (fun _ => 0))),
  (.inr (3, [.ref 111, .ref 112, .int 0])),
  (.inl (.int, 200, .inl (fun _ => 0))),
  (.inl (.int, 200, .inl (fun _ => 0))),
  (.inr (9, [.ref 114, .ref 115, .int 0])),
  (.inl (.int, 10, .inl (fun _ => 0))),
  (.inl (.int, 10, .inl (fun _ => 0))),
  (.inr (5, [.ref 117, .ref 118, .int 0])),
  (.inl (.int, 20, .inl (fun _ => 0))),
  (.inl (.int, 200, .inl (fun _ => 0))),
  (.inr (8, [.int 8, .int 10, .int 40, .int 240, .ref 120, .ref 121, .ref 124, .ref 127, .ref 130])),
  (.inl (.int, 5, .inl (upd (upd (upd (upd (upd (fun _ => 0) 0 100) 1 0) 2 1) 3 4) 4 500))),
  (.inr (7, [.ref 122, .ref 123, .int 0])),
  (.inl (.int, 10, .inl (fun _ => 0))),
  (.inl (.int, 10, .inl (fun _ => 0))),
  (.inr (3, [.ref 125, .ref 126, .int 0])),
  (.inl (.int, 200, .inl (fun _ => 0))),
  (.inl (.int, 200, .inl (fun _ => 0))),
  (.inr (9, [.ref 128, .ref 129, .int 0])),
  (.inl (.int, 10, .inl (fun _ => 0))),
  (.inl (.int, 10, .inl (fun _ => 0))),
  (.inr (5, [.ref 131, .ref 132, .int 0])),
  (.inl (.int, 20, .inl (fun _ => 0))),
  (.inl (.int, 200, .inl (fun _ => 0))),
  (.inr (8, [.int 8, .int 10, .int 40, .int 240, .ref 134, .ref 135, .ref 138, .ref 141, .ref 144])),
  (.inl (.int, 5, .inl (upd (upd (upd (upd (upd (fun _ => 0) 0 100) 1 0) 2 1) 3 4) 4 500))),
  (.inr (7, [.ref 136, .ref 137, .int 0])),
  (.inl (.int, 10, .inl (fun _ => 0))),
  (.inl (.int, 10, .inl (fun _ => 0))),
  (.inr (3, [.ref 139, .ref 140, .int 0])),
  (.inl (.int, 200, .inl (fun _ => 0))),
  (.inl (.int, 200, .inl (fun _ => 0))),
  (.inr (9, [.ref 142, .ref 143, .int 0])),
  (.inl (.int, 10, .inl (fun _ => 0))),
  (.inl (.int, 10, .inl (fun _ => 0))),
  (.inr (5, [.ref 145, .ref 146, .int 0])),
  (.inl (.int, 20, .inl (fun _ => 0))),
  (.inl (.int, 200, .inl (fun _ => 0))),
  (.inr (8, [.int 8, .int 10, .int 40, .int 240, .ref 148, .ref 149, .ref 152, .ref 155, .ref 158])),
  (.inl (.int, 5, .inl (upd (upd (upd (upd (upd (fun _ => 0) 0 100) 1 0) 2 1) 3 4) 4 500))),
  (.inr (7, [.ref 150, .ref 151, .int 0])),
  (.inl (.int, 10, .inl (fun _ => 0))),
  (.inl (.int, 10, .inl (fun _ => 0))),
  (.inr (3, [.ref 153, .ref 154, .int 0])),
  (.inl (.int, 200, .inl (fun _ => 0))),
  (.inl (.int, 200, .inl (fun _ => 0))),
  (.inr (9, [.ref 156, .ref 157, .int 0])),
  (.inl (.int, 10, .inl (fun _ => 0))),
  (.inl (.int, 10, .inl (fun _ => 0))),
  (.inr (5, [.ref 159, .ref 160, .int 0])),
  (.inl (.int, 20, .inl (fun _ => 0))),
  (.inl (.int, 200, .inl (fun _ => 0))),
  (.inr (8, [.int 8, .int 10, .int 40, .int 240, .ref 162, .ref 163, .ref 166, .ref 169, .ref 172])),
  (.inl (.int, 5, .inl (upd (upd (upd (upd (upd (fun _ => 0) 0 100) 1 0) 2 1) 3 4) 4 500))),
  (.inr (7, [.ref 164, .ref 165, .int 0])),
  (.inl (.int, 10, .inl (fun _ => 0))),
  (.inl (.int, 10, .inl (fun _ => 0))),
  (.inr (3, [.ref 167, .ref 168, .int 0])),
  (.inl (.int, 200, .inl (fun _ => 0))),
  (.inl (.int, 200, .inl (fun _ => 0))),
  (.inr (9, [.ref 170, .ref 171, .int 0])),
  (.inl (.int, 10, .inl (fun _ => 0))),
  (.inl (.int, 10, .inl (fun _ => 0))),
  (.inr (5, [.ref 173, .ref 174, .int 0])),
  (.inl (.int, 20, .inl (fun _ => 0))),
  (.inl (.int, 200, .inl (fun _ => 0))),
  (.inr (8, [.int 8, .int 10, .int 40, .int 240, .ref 176, .ref 177, .ref 180, .ref 183, .ref 186])),
  (.inl (.int, 5, .inl (upd (upd (upd (upd (upd (fun _ => 0) 0 100) 1 0) 2 1) 3 4) 4 500))),
  (.inr (7, [.ref 178, .ref 179, .int 0])),
  (.inl (.int, 10, .inl (fun _ => 0))),
  (.inl (.int, 10, .inl (fun _ => 0))),
  (.inr (3, [.ref 181, .ref 182, .int 0])),
  (.inl (.int, 200, .inl (fun _ => 0))),
  (.inl (.int, 200, .inl (fun _ => 0))),
  (.inr (9, [.ref 184, .ref 185, .int 0])),
  (.inl (.int, 10, .inl (fun _ => 0))),
  (.inl (.int, 10, .inl (fun _ => 0))),
  (.inr (5, [.ref 187, .ref 188, .int 0])),
  (.inl (.int, 20, .inl (fun _ => 0))),
  (.inl (.int, 200, .inl (fun _ => 0))),
  (.inr (8, [.int 8, .int 10, .int 40, .int 240, .ref 190, .ref 191, .ref 194, .ref 197, .ref 200])),
  (.inl (.int, 5, .inl (upd (upd (upd (upd (upd (fun _ => 0) 0 100) 1 0) 2 1) 3 4) 4 500))),
  (.inr (7, [.ref 192, .ref 193, .int 0])),
  (.inl (.int, 10, .inl (fun _ => 0))),
  (.inl (.int, 10, .inl (fun _ => 0))),
  (.inr (3, [.ref 195, .ref 196, .int 0])),
  (.inl (.int, 200, .inl (fun _ => 0))),
  (.inl (.int, 200, .inl (fun _ => 0))),
  (.inr (9, [.ref 198, .ref 199, .int 0])),
  (.inl (.int, 10, .inl (fun _ => 0))),
  (.inl (.int, 10, .inl (fun _ => 0))),
  (.inr (5, [.ref 201, .ref 202, .int 0])),
  (.inl (.int, 20, .inl (fun _ => 0))),
  (.inl (.int, 200, .inl (fun _ => 0))),
  (.inr (8, [.int 8, .int 10, .int 40, .int 240, .ref 204, .ref 205, .ref 208, .ref 211, .ref 214])),
  (.inl (.int, 5, .inl (upd (upd (upd (upd (upd (fun _ => 0) 0 100) 1 0) 2 1) 3 4) 4 500))),
  (.inr (7, [.ref 206, .ref 207, .int 0])),
  (.inl (.int, 10, .inl (fun _ => 0))),
  (.inl (.int, 10, .inl (fun _ => 0))),
  (.inr (3, [.ref 209, .ref 210, .int 0])),
  (.inl (.int, 200, .inl (fun _ => 0))),
  (.inl (.int, 200, .inl (fun _ => 0))),
  (.inr (9, [.ref 212, .ref 213, .int 0])),
  (.inl (.int, 10, .inl (fun _ => 0))),
  (.inl (.int, 10, .inl (fun _ => 0))),
  (.inr (5, [.ref 215, .ref 216, .int 0])),
  (.inl (.int, 20, .inl (fun _ => 0))),
  (.inl (.int, 200, .inl (fun _ => 0))),
  (.inr (13, [.ref 218, .ref 219, .ref 220, .int 0, .ref 221, .int 0, .int 0, .int 0, .int 0, .int 0, .int 0, .ref 222, .int 0, .long 0, .long 0, .ref 223, .ref 224, .ref 225, .int 0, .ref 226, .ref 227, .ref 228, .int 0, .ref 229, .ref 230, .int 0, .int 0, .int 0, .int 0, .long 0, .long 0, .ref 231, .ref 232, .ref 233, .ref 234, .int 0, .int 0, .int 0, .ref 235, .ref 236, .ref 237, .ref 238, .ref 239, .int 0, .ref 240, .int 0, .ref 241, .long 0, .long 0, .long 0, .long 0, .long 0, .long 0, .long 0])),
  (.inl (.int, 676, .inl fF0)),
  (.inl (.int, 676, .inl (fun _ => 0))),
  (.inl (.int, 5408, .inl (fun _ => 0))),
  (.inl (.byte, 240, .inl (fun _ => 0))),
  (.inl (.int, 20, .inl (fun _ => 0))),
  (.inl (.int, 200, .inl (fun _ => 0))),
  (.inl (.int, 200, .inl (fun _ => 0))),
  (.inl (.int, 4, .inl (fun _ => 0))),
  (.inl (.int, 200, .inl (fun _ => 0))),
  (.inl (.int, 200, .inl (fun _ => 0))),
  (.inl (.long, 200, .inr (.inl (fun _ => 0)))),
  (.inl (.int, 200, .inl (fun _ => 0))),
  (.inl (.long, 200, .inr (.inl (fun _ => 0)))),
  (.inl (.boolean, 200, .inl (fun _ => 0))),
  (.inl (.long, 1600, .inr (.inl (fun _ => 0)))),
  (.inl (.boolean, 400, .inl (fun _ => 0))),
  (.inl (.boolean, 200, .inl (fun _ => 0))),
  (.inl (.int, 8, .inl (fun _ => 0))),
  (.inl (.int, 5, .inl (fun _ => 0))),
  (.inl (.int, 5, .inl (fun _ => 0))),
  (.inl (.int, 30, .inl (fun _ => 0))),
  (.inl (.boolean, 5, .inl (fun _ => 0))),
  (.inl (.byte, 80, .inl (fun _ => 0))),
  (.inl (.byte, 25, .inl (upd (upd (upd (upd (upd (upd (upd (upd (upd (upd (upd (upd (upd (upd (upd (upd (upd (upd (upd (upd (upd (upd (upd (upd (upd (fun _ => 0) 0 (vp_nar .byte 111)) 1 (vp_nar .byte 117)) 2 (vp_nar .byte 116)) 3 (vp_nar .byte 101)) 4 (vp_nar .byte 114)) 5 (vp_nar .byte 105)) 6 (vp_nar .byte 110)) 7 (vp_nar .byte 110)) 8 (vp_nar .byte 101)) 9 (vp_nar .byte 114)) 10 (vp_nar .byte 98)) 11 (vp_nar .byte 97)) 12 (vp_nar .byte 108)) 13 (vp_nar .byte 108)) 14 (vp_nar .byte 0)) 15 (vp_nar .byte 99)) 16 (vp_nar .byte 97)) 17 (vp_nar .byte 103)) 18 (vp_nar .byte 101)) 19 (vp_nar .byte 0)) 20 (vp_nar .byte 115)) 21 (vp_nar .byte 104)) 22 (vp_nar .byte 97)) 23 (vp_nar .byte 102)) 24 (vp_nar .byte 116))))]
set_option maxRecDepth 100000 in
theorem cE_1 : Rk24 = [(.inr (10, [.ref 34, .int 0, .int 0, .int 0, .int 0, .ref 35, .ref 36])),
  (.inl (.int, 240, .inl (fun _ => 0))),
  (.inl (.int, 3, .inl (fun _ => 0))),
  (.inl (.int, 3, .inl (fun _ => 0))),
  (.inr (8, [.int 8, .int 10, .int 40, .int 240, .ref 38, .ref 39, .ref 42, .ref 45, .ref 48])),
  (.inl (.int, 5, .inl (upd (upd (upd (upd (upd (fun _ => 0) 0 100) 1 0) 2 1) 3 4) 4 500))),
  (.inr (7, [.ref 40, .ref 41, .int 0])),
  (.inl (.int, 10, .inl (fun _ => 0))),
  (.inl (.int, 10, .inl (fun _ => 0))),
  (.inr (3, [.ref 43, .ref 44, .int 0])),
  (.inl (.int, 200, .inl (fun _ => 0))),
  (.inl (.int, 200, .inl (fun _ => 0))),
  (.inr (9, [.ref 46, .ref 47, .int 0])),
  (.inl (.int, 10, .inl (fun _ => 0))),
  (.inl (.int, 10, .inl (fun _ => 0))),
  (.inr (5, [.ref 49, .ref 50, .int 0])),
  (.inl (.int, 20, .inl (fun _ => 0))),
  (.inl (.int, 200, .inl (fun _ => 0))),
  (.inr (8, [.int 8, .int 10, .int 40, .int 240, .ref 52, .ref 53, .ref 56, .ref 59, .ref 62])),
  (.inl (.int, 5, .inl (upd (upd (upd (upd (upd (fun _ => 0) 0 100) 1 0) 2 1) 3 4) 4 500))),
  (.inr (7, [.ref 54, .ref 55, .int 0])),
  (.inl (.int, 10, .inl (fun _ => 0))),
  (.inl (.int, 10, .inl (fun _ => 0))),
  (.inr (3, [.ref 57, .ref 58, .int 0])),
  (.inl (.int, 200, .inl (fun _ => 0))),
  (.inl (.int, 200, .inl (fun _ => 0))),
  (.inr (9, [.ref 60, .ref 61, .int 0])),
  (.inl (.int, 10, .inl (fun _ => 0))),
  (.inl (.int, 10, .inl (fun _ => 0))),
  (.inr (5, [.ref 63, .ref 64, .int 0])),
  (.inl (.int, 20, .inl (fun _ => 0))),
  (.inl (.int, 200, .inl (fun _ => 0))),
  (.inl (.object "KnockFinder$State", 8, .inr (.inr (.inr (.inr (va_up (va_up (va_up (va_up (va_up (va_up (va_up (va_up (fun j => if j < 8 then none else some 0) 0 (some 105)) 1 (some 119)) 2 (some 133)) 3 (some 147)) 4 (some 161)) 5 (some 175)) 6 (some 189)) 7 (some 203))))))),
  (.inr (3, [.ref 67, .ref 68, .int 0])),
  (.inl (.int, 200, .inl (fun _ => 0))),
  (.inl (.int, 200, .inl (fun _ => 0))),
  (.inr (3, [.ref 70, .ref 71, .int 0])),
  (.inl (.int, 200, .inl (fun _ => 0))),
  (.inl (.int, 200, .inl (fun _ => 0))),
  (.inr (6, [.long 1, .long 1])),
  (.inr (6, [.long 1, .long 1])),
  (.inr (2, [.int 0, .long 1000000, .long 0, .long 0, .ref 75, .ref 76, .int 0, .int 0, .ref 77, .ref 78, .ref 79, .int (-1), .int 0, .int 0])),
  (.inl (.long, 200, .inr (.inl (fun _ => 0)))),
  (.inl (.long, 200, .inr (.inl (fun _ => 0)))),
  (.inl (.int, 200, .inl (fun _ => 0))),
  (.inl (.long, 200, .inr (.inl (fun _ => 0)))),
  (.inl (.long, 200, .inr (.inl (fun _ => 0)))),
  (.inr (1, [.int 0, .ref 81, .ref 82, .ref 83, .ref 84])),
  (.inl (.int, 200, .inl (fun _ => 0))),
  (.inl (.int, 200, .inl (fun _ => 0))),
  (.inl (.int, 200, .inl (fun _ => 0))),
  (.inl (.long, 200, .inr (.inl (fun _ => 0)))),
  (.inr (4, [.ref 86, .ref 87, .int 0, .int 0, .int 0, .int 0])),
  (.inl (.long, 800, .inr (.inl (fun _ => 0)))),
  (.inl (.int, 200, .inl (fun _ => 0))),
  (.inr (4, [.ref 89, .ref 90, .int 0, .int 0, .int 0, .int 0])),
  (.inl (.long, 800, .inr (.inl (fun _ => 0)))),
  (.inl (.int, 200, .inl (fun _ => 0))),
  (.inr (11, [.ref 92, .ref 93, .ref 94, .ref 95, .int 0, .int 0, .int 0, .ref 96])),
  (.inl (.boolean, 5, .inl (fun _ => 0))),
  (.inl (.int, 5, .inl (fun _ => 0))),
  (.inl (.int, 5, .inl (fun _ => 0))),
  (.inl (.int, 5, .inl (fun _ => 0))),
  (.inl (.int, 30, .inl (fun _ => 0))),
  (.inr (11, [.ref 98, .ref 99, .ref 100, .ref 101, .int 0, .int 0, .int 0, .ref 102])),
  (.inl (.boolean, 5, .inl (fun _ => 0))),
  (.inl (.int, 5, .inl (fun _ => 0))),
  (.inl (.int, 5, .inl (fun _ => 0))),
  (.inl (.int, 5, .inl (fun _ => 0))),
  (.inl (.int, 30, .inl (fun _ => 0))),
  (.inl (.int, 8, .inl (fun _ => 0))),
  (.inl (.int, 699, .inl (fun _ => 0))),
  (.inr (8, [.int 8, .int 10, .int 40, .int 240, .ref 106, .ref 107, .ref 110, .ref 113, .ref 116])),
  (.inl (.int, 5, .inl (upd (upd (upd (upd (upd (fun _ => 0) 0 100) 1 0) 2 1) 3 4) 4 500))),
  (.inr (7, [.ref 108, .ref 109, .int 0])),
  (.inl (.int, 10, .inl (fun _ => 0))),
  (.inl (.int, 10, .inl (fun _ => 0))),
  (.inr (3, [.ref 111, .ref 112, .int 0])),
  (.inl (.int, 200, .inl (fun _ => 0))),
  (.inl (.int, 200, .inl (fun _ => 0))),
  (.inr (9, [.ref 114, .ref 115, .int 0])),
  (.inl (.int, 10, .inl (fun _ => 0))),
  (.inl (.int, 10, .inl (fun _ => 0))),
  (.inr (5, [.ref 117, .ref 118, .int 0])),
  (.inl (.int, 20, .inl (fun _ => 0))),
  (.inl (.int, 200, .inl (fun _ => 0))),
  (.inr (8, [.int 8, .int 10, .int 40, .int 240, .ref 120, .ref 121, .ref 124, .ref 127, .ref 130])),
  (.inl (.int, 5, .inl (upd (upd (upd (upd (upd (fun _ => 0) 0 100) 1 0) 2 1) 3 4) 4 500))),
  (.inr (7, [.ref 122, .ref 123, .int 0])),
  (.inl (.int, 10, .inl (fun _ => 0))),
  (.inl (.int, 10, .inl (fun _ => 0))),
  (.inr (3, [.ref 125, .ref 126, .int 0])),
  (.inl (.int, 200, .inl (fun _ => 0))),
  (.inl (.int, 200, .inl (fun _ => 0))),
  (.inr (9, [.ref 128, .ref 129, .int 0])),
  (.inl (.int, 10, .inl (fun _ => 0))),
  (.inl (.int, 10, .inl (fun _ => 0))),
  (.inr (5, [.ref 131, .ref 132, .int 0])),
  (.inl (.int, 20, .inl (fun _ => 0))),
  (.inl (.int, 200, .inl (fun _ => 0))),
  (.inr (8, [.int 8, .int 10, .int 40, .int 240, .ref 134, .ref 135, .ref 138, .ref 141, .ref 144])),
  (.inl (.int, 5, .inl (upd (upd (upd (upd (upd (fun _ => 0) 0 100) 1 0) 2 1) 3 4) 4 500))),
  (.inr (7, [.ref 136, .ref 137, .int 0])),
  (.inl (.int, 10, .inl (fun _ => 0))),
  (.inl (.int, 10, .inl (fun _ => 0))),
  (.inr (3, [.ref 139, .ref 140, .int 0])),
  (.inl (.int, 200, .inl (fun _ => 0))),
  (.inl (.int, 200, .inl (fun _ => 0))),
  (.inr (9, [.ref 142, .ref 143, .int 0])),
  (.inl (.int, 10, .inl (fun _ => 0))),
  (.inl (.int, 10, .inl (fun _ => 0))),
  (.inr (5, [.ref 145, .ref 146, .int 0])),
  (.inl (.int, 20, .inl (fun _ => 0))),
  (.inl (.int, 200, .inl (fun _ => 0))),
  (.inr (8, [.int 8, .int 10, .int 40, .int 240, .ref 148, .ref 149, .ref 152, .ref 155, .ref 158])),
  (.inl (.int, 5, .inl (upd (upd (upd (upd (upd (fun _ => 0) 0 100) 1 0) 2 1) 3 4) 4 500))),
  (.inr (7, [.ref 150, .ref 151, .int 0])),
  (.inl (.int, 10, .inl (fun _ => 0))),
  (.inl (.int, 10, .inl (fun _ => 0))),
  (.inr (3, [.ref 153, .ref 154, .int 0])),
  (.inl (.int, 200, .inl (fun _ => 0))),
  (.inl (.int, 200, .inl (fun _ => 0))),
  (.inr (9, [.ref 156, .ref 157, .int 0])),
  (.inl (.int, 10, .inl (fun _ => 0))),
  (.inl (.int, 10, .inl (fun _ => 0))),
  (.inr (5, [.ref 159, .ref 160, .int 0])),
  (.inl (.int, 20, .inl (fun _ => 0))),
  (.inl (.int, 200, .inl (fun _ => 0))),
  (.inr (8, [.int 8, .int 10, .int 40, .int 240, .ref 162, .ref 163, .ref 166, .ref 169, .ref 172])),
  (.inl (.int, 5, .inl (upd (upd (upd (upd (upd (fun _ => 0) 0 100) 1 0) 2 1) 3 4) 4 500))),
  (.inr (7, [.ref 164, .ref 165, .int 0])),
  (.inl (.int, 10, .inl (fun _ => 0))),
  (.inl (.int, 10, .inl (fun _ => 0))),
  (.inr (3, [.ref 167, .ref 168, .int 0])),
  (.inl (.int, 200, .inl (fun _ => 0))),
  (.inl (.int, 200, .inl (fun _ => 0))),
  (.inr (9, [.ref 170, .ref 171, .int 0])),
  (.inl (.int, 10, .inl (fun _ => 0))),
  (.inl (.int, 10, .inl (fun _ => 0))),
  (.inr (5, [.ref 173, .ref 174, .int 0])),
  (.inl (.int, 20, .inl (fun _ => 0))),
  (.inl (.int, 200, .inl (fun _ => 0))),
  (.inr (8, [.int 8, .int 10, .int 40, .int 240, .ref 176, .ref 177, .ref 180, .ref 183, .ref 186])),
  (.inl (.int, 5, .inl (upd (upd (upd (upd (upd (fun _ => 0) 0 100) 1 0) 2 1) 3 4) 4 500))),
  (.inr (7, [.ref 178, .ref 179, .int 0])),
  (.inl (.int, 10, .inl (fun _ => 0))),
  (.inl (.int, 10, .inl (fun _ => 0))),
  (.inr (3, [.ref 181, .ref 182, .int 0])),
  (.inl (.int, 200, .inl (fun _ => 0))),
  (.inl (.int, 200, .inl (fun _ => 0))),
  (.inr (9, [.ref 184, .ref 185, .int 0])),
  (.inl (.int, 10, .inl (fun _ => 0))),
  (.inl (.int, 10, .inl (fun _ => 0))),
  (.inr (5, [.ref 187, .ref 188, .int 0])),
  (.inl (.int, 20, .inl (fun _ => 0))),
  (.inl (.int, 200, .inl (fun _ => 0))),
  (.inr (8, [.int 8, .int 10, .int 40, .int 240, .ref 190, .ref 191, .ref 194, .ref 197, .ref 200])),
  (.inl (.int, 5, .inl (upd (upd (upd (upd (upd (fun _ => 0) 0 100) 1 0) 2 1) 3 4) 4 500))),
  (.inr (7, [.ref 192, .ref 193, .int 0])),
  (.inl (.int, 10, .inl (fun _ => 0))),
  (.inl (.int, 10, .inl (fun _ => 0))),
  (.inr (3, [.ref 195, .ref 196, .int 0])),
  (.inl (.int, 200, .inl (fun _ => 0))),
  (.inl (.int, 200, .inl (fun _ => 0))),
  (.inr (9, [.ref 198, .ref 199, .int 0])),
  (.inl (.int, 10, .inl (fun _ => 0))),
  (.inl (.int, 10, .inl (fun _ => 0))),
  (.inr (5, [.ref 201, .ref 202, .int 0])),
  (.inl (.int, 20, .inl (fun _ => 0))),
  (.inl (.int, 200, .inl (fun _ => 0))),
  (.inr (8, [.int 8, .int 10, .int 40, .int 240, .ref 204, .ref 205, .ref 208, .ref 211, .ref 214])),
  (.inl (.int, 5, .inl (upd (upd (upd (upd (upd (fun _ => 0) 0 100) 1 0) 2 1) 3 4) 4 500))),
  (.inr (7, [.ref 206, .ref 207, .int 0])),
  (.inl (.int, 10, .inl (fun _ => 0))),
  (.inl (.int, 10, .inl (fun _ => 0))),
  (.inr (3, [.ref 209, .ref 210, .int 0])),
  (.inl (.int, 200, .inl (fun _ => 0))),
  (.inl (.int, 200, .inl (fun _ => 0))),
  (.inr (9, [.ref 212, .ref 213, .int 0])),
  (.inl (.int, 10, .inl (fun _ => 0))),
  (.inl (.int, 10, .inl (fun _ => 0))),
  (.inr (5, [.ref 215, .ref 216, .int 0])),
  (.inl (.int, 20, .inl (fun _ => 0))),
  (.inl (.int, 200, .inl (fun _ => 0)))] := rfl
set_option maxRecDepth 100000 in
theorem cE_e : cX11 ++ cX12 217 = cE := by
  unfold cX11 cX12
  rw [fk_e, fq_e, cE_1]
  rfl
