/-! OWN: goals first: a run ends, and so; branches that wait until they are decided -/
abbrev tI : Type := Nat → Nat → Int32
abbrev tL : Type := Nat → Nat → Int64
def Gd (o : Option kR) (Q : kR → Prop) : Prop := ∃ r, o = some r ∧ Q r
/-- an answer v, and of the memory behind it Q -/
def Rt (h : kH) (nw df : Nat) (P : Nat → Nat) (v : Option Value) (Q : tI → tL → tI → tL → Prop) (r : kR) : Prop := ∃ i l I J, r = (v, mH h i l I J nw df P) ∧ Q i l I J
theorem Gd_ret {r : kR} {Q : kR → Prop} (h : Q r) : Gd (some r) Q := ⟨r, rfl, h⟩
theorem Gd_rt {h : kH} {nw df : Nat} {P : Nat → Nat} {v : Option Value} {Q : tI → tL → tI → tL → Prop} {i : tI} {l : tL} {I : tI} {J : tL} (q : Q i l I J) : Gd (some (v, mH h i l I J nw df P)) (Rt h nw df P v Q) := ⟨_, rfl, i, l, I, J, rfl, q⟩
theorem Gd_rte {h : kH} {nw df : Nat} {P : Nat → Nat} {v w : Option Value} {Q : tI → tL → tI → tL → Prop} {i : tI} {l : tL} {I : tI} {J : tL} (e : v = w) (q : Q i l I J) : Gd (some (v, mH h i l I J nw df P)) (Rt h nw df P w Q) := by subst e; exact Gd_rt q
theorem Gd_bind {o : Option kR} {f : kR → Option kR} {Q1 Q : kR → Prop} (h : Gd o Q1) (g : ∀ r, Q1 r → Gd (f r) Q) : Gd (o.bind f) Q := by
  obtain ⟨r, rfl, q⟩ := h
  exact g r q
theorem Gd_mono {o : Option kR} {Q1 Q : kR → Prop} (h : Gd o Q1) (g : ∀ r, Q1 r → Q r) : Gd o Q := by
  obtain ⟨r, e, q⟩ := h
  exact ⟨r, e, g r q⟩
theorem Gd_call {h : kH} {nw df : Nat} {P : Nat → Nat} {v : Option Value} {Q1 : tI → tL → tI → tL → Prop} {o : Option kR} {f : kR → Option kR} {Q : kR → Prop} (hc : Gd o (Rt h nw df P v Q1)) (g : ∀ i l I J, Q1 i l I J → Gd (f (v, mH h i l I J nw df P)) Q) : Gd (o.bind f) Q :=
  Gd_bind hc (fun _ ⟨i, l, I, J, e, q⟩ => by rw [e]; exact g i l I J q)
theorem Gd_tail {h : kH} {nw df : Nat} {P : Nat → Nat} {v : Option Value} {Q1 Q2 : tI → tL → tI → tL → Prop} {o : Option kR} (hc : Gd o (Rt h nw df P v Q1)) (g : ∀ i l I J, Q1 i l I J → Q2 i l I J) : Gd o (Rt h nw df P v Q2) :=
  Gd_mono hc (fun _ ⟨i, l, I, J, e, q⟩ => ⟨i, l, I, J, e, g i l I J q⟩)
theorem Gd_eq {o o' : Option kR} {Q : kR → Prop} (e : o = o') (h : Gd o' Q) : Gd o Q := by rw [e]; exact h
theorem Gd_rtE {h : kH} {nw df : Nat} {P : Nat → Nat} {v : Option Value} {Q : tI → tL → tI → tL → Prop} {o : Option kR} (hc : Gd o (Rt h nw df P v Q)) : ∃ i l I J, o = some (v, mH h i l I J nw df P) ∧ Q i l I J := by
  obtain ⟨_, e, i, l, I, J, e2, q⟩ := hc
  exact ⟨i, l, I, J, by rw [e, e2], q⟩
noncomputable def exLt (x y : Int32) (d m a b : Nat) (L : kL) (S : List Value) (h : kH) : Option kR := if x < y then ex d m a L S h else ex d m b L S h
noncomputable def exEq (x y : Int32) (d m a b : Nat) (L : kL) (S : List Value) (h : kH) : Option kR := if x = y then ex d m a L S h else ex d m b L S h
noncomputable def exLtL (x y : Int64) (d m a b : Nat) (L : kL) (S : List Value) (h : kH) : Option kR := if x < y then ex d m a L S h else ex d m b L S h
noncomputable def exEqL (x y : Int64) (d m a b : Nat) (L : kL) (S : List Value) (h : kH) : Option kR := if x = y then ex d m a L S h else ex d m b L S h
noncomputable def exSw (x : Int32) (dt : Nat) (d m : Nat) (L : kL) (S : List Value) (h : kH) : List (Nat × Nat) → Option kR
  | [] => ex d m dt L S h
  | (v, p) :: r => if x = nI v then ex d m p L S h else exSw x dt d m L S h r
theorem kx_ge {x y : Int32} {o A B : Option kR} (e : o = if y ≤ x then A else B) : o = if x < y then B else A := by
  rw [e]
  by_cases h : x < y
  · rw [if_pos h, if_neg (fun z => absurd h (Int32.not_lt.mpr z))]
  · rw [if_neg h, if_pos (Int32.not_lt.mp h)]
theorem kx_ne {x y : Int32} {o A B : Option kR} (e : o = if ¬ x = y then A else B) : o = if x = y then B else A := by
  rw [e]
  by_cases h : x = y
  · rw [if_pos h, if_neg (fun z => z h)]
  · rw [if_neg h, if_pos h]
section KX
variable {a b : Nat} {x y : Int32} {u v : Int64} {d m p q dt : Nat} {L : kL} {S : List Value} {h : kH} {Q : kR → Prop}
theorem exLt_c1 : exLt (lg_cmp u v) (nI 0) d m p q L S h = exLtL u v d m p q L S h := by
  unfold exLt exLtL
  rw [show nI 0 = (0 : Int32) from rfl]
  by_cases c : u < v
  · rw [if_pos c, if_pos ((lg_cmp_lt _ _).mpr c)]
  · rw [if_neg c, if_neg (fun z => c ((lg_cmp_lt _ _).mp z))]
theorem exLt_c2 : exLt (nI 0) (lg_cmp u v) d m p q L S h = exLtL v u d m p q L S h := by
  unfold exLt exLtL
  rw [show nI 0 = (0 : Int32) from rfl]
  by_cases c : v < u
  · rw [if_pos c, if_pos ((lg_cmp_gt _ _).mpr c)]
  · rw [if_neg c, if_neg (fun z => c ((lg_cmp_gt _ _).mp z))]
theorem exEq_c : exEq (lg_cmp u v) (nI 0) d m p q L S h = exEqL u v d m p q L S h := by
  unfold exEq exEqL
  rw [show nI 0 = (0 : Int32) from rfl]
  by_cases c : u = v
  · rw [if_pos c, if_pos ((lg_cmp_eq _ _).mpr c)]
  · rw [if_neg c, if_neg (fun z => c ((lg_cmp_eq _ _).mp z))]
theorem exLt_t (hc : a < b) (hb : b < 2147483648) : exLt (nI a) (nI b) d m p q L S h = ex d m p L S h := if_pos (nI_lt hc hb)
theorem exLt_f (hc : b ≤ a) (hb : a < 2147483648) : exLt (nI a) (nI b) d m p q L S h = ex d m q L S h := if_neg (nI_nlt hc hb)
theorem exEq_s : exEq x x d m p q L S h = ex d m p L S h := if_pos rfl
theorem exEq_t (hc : a = b) : exEq (nI a) (nI b) d m p q L S h = ex d m p L S h := if_pos (by rw [hc])
theorem exEq_f (hc : a ≠ b) (ha : a < 2147483648) (hb : b < 2147483648) : exEq (nI a) (nI b) d m p q L S h = ex d m q L S h := if_neg (fun z => hc ((nI_eq ha hb).mp z))
theorem exLt_mn (h0 : 0 < b) (hb : b < 2147483648) (ha : a < 2147483648) : exLt (mI b) (nI a) d m p q L S h = ex d m p L S h := if_pos (mI_ltN ha h0 hb)
theorem exLt_nm (h0 : 0 < b) (hb : b < 2147483648) (ha : a < 2147483648) : exLt (nI a) (mI b) d m p q L S h = ex d m q L S h := if_neg (Int32.not_lt.mpr (Int32.le_of_lt (mI_ltN ha h0 hb)))
theorem exEq_mn (h0 : 0 < b) (hb : b < 2147483648) (ha : a < 2147483648) : exEq (mI b) (nI a) d m p q L S h = ex d m q L S h := if_neg (fun z => nI_nm ha h0 hb z.symm)
theorem exEq_nm (h0 : 0 < b) (hb : b < 2147483648) (ha : a < 2147483648) : exEq (nI a) (mI b) d m p q L S h = ex d m q L S h := if_neg (nI_nm ha h0 hb)
theorem exEq_mm (hc : a ≠ b) (ha : a < 2147483648) (hb : b < 2147483648) : exEq (mI a) (mI b) d m p q L S h = ex d m q L S h := if_neg (fun z => by
  have h2 := congrArg Int32.toInt z
  rw [mI_toInt ha, mI_toInt hb] at h2
  omega)
theorem exEq_xf (hc : ¬ x = y) : exEq x y d m p q L S h = ex d m q L S h := if_neg hc
theorem exLtL_t (hc : a < b) (hb : b < 9223372036854775808) : exLtL (lN a) (lN b) d m p q L S h = ex d m p L S h := if_pos ((pk_lLT (by omega) hb).mpr hc)
theorem exLtL_f (hc : b ≤ a) (hb : a < 9223372036854775808) : exLtL (lN a) (lN b) d m p q L S h = ex d m q L S h := if_neg (fun z => by have := (pk_lLT hb (by omega)).mp z; omega)
theorem exEqL_t (hc : a = b) : exEqL (lN a) (lN b) d m p q L S h = ex d m p L S h := if_pos (by rw [hc])
theorem exEqL_f (hc : a ≠ b) (ha : a < 9223372036854775808) (hb : b < 9223372036854775808) : exEqL (lN a) (lN b) d m p q L S h = ex d m q L S h := if_neg (fun z => hc ((pk_lEQ ha hb).mp z))
theorem exB_t {c : Prop} [Decidable c] (hc : c) : exEq (bI c) (nI 0) d m p q L S h = ex d m q L S h := by
  unfold exEq bI
  rw [if_pos hc, if_neg (by decide)]
theorem exB_f {c : Prop} [Decidable c] (hc : ¬ c) : exEq (bI c) (nI 0) d m p q L S h = ex d m p L S h := by
  unfold exEq bI
  rw [if_neg hc, if_pos (by decide)]
theorem exSw_t {r : List (Nat × Nat)} (hc : a = b) : exSw (nI a) dt d m L S h ((b, p) :: r) = ex d m p L S h := if_pos (by rw [hc])
theorem exSw_f {r : List (Nat × Nat)} (hc : a ≠ b) (ha : a < 2147483648) (hb : b < 2147483648) : exSw (nI a) dt d m L S h ((b, p) :: r) = exSw (nI a) dt d m L S h r := if_neg (fun z => hc ((nI_eq ha hb).mp z))
theorem exSw_0 : exSw x dt d m L S h [] = ex d m dt L S h := rfl
/-- undecided: both ways -/
theorem Gd_lt (ha : a < 2147483648) (hb : b < 2147483648) (h1 : a < b → Gd (ex d m p L S h) Q) (h2 : b ≤ a → Gd (ex d m q L S h) Q) : Gd (exLt (nI a) (nI b) d m p q L S h) Q := by
  rcases Nat.lt_or_ge a b with c | c
  · rw [exLt_t c hb]; exact h1 c
  · rw [exLt_f c ha]; exact h2 c
theorem Gd_ltI (h1 : x.toInt < y.toInt → Gd (ex d m p L S h) Q) (h2 : y.toInt ≤ x.toInt → Gd (ex d m q L S h) Q) : Gd (exLt x y d m p q L S h) Q := by
  unfold exLt
  by_cases c : x < y
  · rw [if_pos c]; exact h1 (Int32.lt_iff_toInt_lt.mp c)
  · rw [if_neg c]; exact h2 (Int.not_lt.mp (fun z => c (Int32.lt_iff_toInt_lt.mpr z)))
theorem Gd_eqN (ha : a < 2147483648) (hb : b < 2147483648) (h1 : a = b → Gd (ex d m p L S h) Q) (h2 : a ≠ b → Gd (ex d m q L S h) Q) : Gd (exEq (nI a) (nI b) d m p q L S h) Q := by
  by_cases c : a = b
  · rw [exEq_t c]; exact h1 c
  · rw [exEq_f c ha hb]; exact h2 c
theorem Gd_eqI (h1 : x = y → Gd (ex d m p L S h) Q) (h2 : ¬ x = y → Gd (ex d m q L S h) Q) : Gd (exEq x y d m p q L S h) Q := by
  unfold exEq
  by_cases c : x = y
  · rw [if_pos c]; exact h1 c
  · rw [if_neg c]; exact h2 c
theorem Gd_ltL (ha : a < 9223372036854775808) (hb : b < 9223372036854775808) (h1 : a < b → Gd (ex d m p L S h) Q) (h2 : b ≤ a → Gd (ex d m q L S h) Q) : Gd (exLtL (lN a) (lN b) d m p q L S h) Q := by
  rcases Nat.lt_or_ge a b with c | c
  · rw [exLtL_t c hb]; exact h1 c
  · rw [exLtL_f c ha]; exact h2 c
theorem Gd_eqL (ha : a < 9223372036854775808) (hb : b < 9223372036854775808) (h1 : a = b → Gd (ex d m p L S h) Q) (h2 : a ≠ b → Gd (ex d m q L S h) Q) : Gd (exEqL (lN a) (lN b) d m p q L S h) Q := by
  by_cases c : a = b
  · rw [exEqL_t c]; exact h1 c
  · rw [exEqL_f c ha hb]; exact h2 c
theorem Gd_ltLI (h1 : u < v → Gd (ex d m p L S h) Q) (h2 : ¬ u < v → Gd (ex d m q L S h) Q) : Gd (exLtL u v d m p q L S h) Q := by
  unfold exLtL
  by_cases c : u < v
  · rw [if_pos c]; exact h1 c
  · rw [if_neg c]; exact h2 c
theorem Gd_b {c : Prop} [Decidable c] (h1 : c → Gd (ex d m q L S h) Q) (h2 : ¬ c → Gd (ex d m p L S h) Q) : Gd (exEq (bI c) (nI 0) d m p q L S h) Q := by
  by_cases k : c
  · rw [exB_t k]; exact h1 k
  · rw [exB_f k]; exact h2 k
theorem Gd_sw {r : List (Nat × Nat)} (h1 : x = nI b → Gd (ex d m p L S h) Q) (h2 : ¬ x = nI b → Gd (exSw x dt d m L S h r) Q) : Gd (exSw x dt d m L S h ((b, p) :: r)) Q := by
  rw [exSw]
  by_cases c : x = nI b
  · rw [if_pos c]; exact h1 c
  · rw [if_neg c]; exact h2 c
theorem pk_subm (hc : a < b) : nI a - nI b = mI (b - a) := by
  have e : nI b - nI a = nI (b - a) := pk_sub (by omega)
  rw [mI, ← e, Int32.neg_sub]
theorem knar1 : vp_nar .boolean (nI 1) = nI 1 := rfl
theorem knar0 : vp_nar .boolean (nI 0) = nI 0 := rfl
theorem kad1 (hc : b ≤ a) : nI a + mI b = nI (a - b) := by rw [mI, ← Int32.sub_eq_add_neg]; exact pk_sub hc
theorem kad2 (hc : a < b) : nI a + mI b = mI (b - a) := by rw [mI, ← Int32.sub_eq_add_neg]; exact pk_subm hc
/-- an int within bounds is a number -/
theorem nI_inK {n : Nat} (h1 : 0 ≤ x.toInt) (h2 : x.toInt ≤ n) (hn : n < 2147483648) : ∃ k, k ≤ n ∧ x = nI k := ⟨x.toInt.toNat, by omega, Int32.toInt_inj.mp (by rw [nI_toInt (by omega)]; omega)⟩
end KX
theorem X0_follow_17b {d : Nat} {L : kL} {S : List Value} {h : kH} {x y : Int32} : ex d mX0_follow 17 L (.int y :: .int x :: S) h = exLt x y d mX0_follow 20 56 L S h := kx_ge X0_follow_17
theorem X0_follow_66b {d : Nat} {L : kL} {S : List Value} {h : kH} {x : Int32} : ex d mX0_follow 66 L (.int x :: S) h = exLt x (nI 0) d mX0_follow 101 69 L S h := X0_follow_66
theorem X0_link_35b {d : Nat} {L : kL} {S : List Value} {h : kH} {x y : Int32} : ex d mX0_link 35 L (.int y :: .int x :: S) h = exLt y x d mX0_link 203 38 L S h := X0_link_35
theorem X0_link_58b {d : Nat} {L : kL} {S : List Value} {h : kH} {x y : Int32} : ex d mX0_link 58 L (.int y :: .int x :: S) h = exLt x y d mX0_link 61 80 L S h := kx_ge X0_link_58
theorem X0_link_71b {d : Nat} {L : kL} {S : List Value} {h : kH} {x : Int32} : ex d mX0_link 71 L (.int x :: S) h = exLt x (nI 0) d mX0_link 74 80 L S h := kx_ge X0_link_71
theorem X0_link_93b {d : Nat} {L : kL} {S : List Value} {h : kH} {x : Int32} : ex d mX0_link 93 L (.int x :: S) h = exLt x (nI 0) d mX0_link 96 100 L S h := kx_ge X0_link_93
theorem X0_link_118b {d : Nat} {L : kL} {S : List Value} {h : kH} {x y : Int32} : ex d mX0_link 118 L (.int y :: .int x :: S) h = exLt y x d mX0_link 121 197 L S h := kx_ge X0_link_118
theorem X0_link_125b {d : Nat} {L : kL} {S : List Value} {h : kH} {x : Int32} : ex d mX0_link 125 L (.int x :: S) h = exLt x (nI 0) d mX0_link 128 197 L S h := kx_ge X0_link_125
theorem X0_link_149b {d : Nat} {L : kL} {S : List Value} {h : kH} {x : Int32} : ex d mX0_link 149 L (.int x :: S) h = exLt (nI 0) x d mX0_link 197 152 L S h := X0_link_149
theorem X0_nearestTo_9b {d : Nat} {L : kL} {S : List Value} {h : kH} {x y : Int32} : ex d mX0_nearestTo 9 L (.int y :: .int x :: S) h = exLt y x d mX0_nearestTo 28 12 L S h := X0_nearestTo_9
theorem X0_nearestTo_18b {d : Nat} {L : kL} {S : List Value} {h : kH} {x y : Int32} : ex d mX0_nearestTo 18 L (.int y :: .int x :: S) h = exLt x y d mX0_nearestTo 21 26 L S h := kx_ge X0_nearestTo_18
theorem X0_nearestTo_34b {d : Nat} {L : kL} {S : List Value} {h : kH} {x y : Int32} : ex d mX0_nearestTo 34 L (.int y :: .int x :: S) h = exLt x y d mX0_nearestTo 40 37 L S h := X0_nearestTo_34
theorem X0_nearestTo_59b {d : Nat} {L : kL} {S : List Value} {h : kH} {x : Int32} : ex d mX0_nearestTo 59 L (.int x :: S) h = exLt (nI 0) x d mX0_nearestTo 67 62 L S h := X0_nearestTo_59
theorem X0_knockOfMost_9b {d : Nat} {L : kL} {S : List Value} {h : kH} {x y : Int32} : ex d mX0_knockOfMost 9 L (.int y :: .int x :: S) h = exLt x y d mX0_knockOfMost 12 35 L S h := kx_ge X0_knockOfMost_9
theorem X0_knockOfMost_24b {d : Nat} {L : kL} {S : List Value} {h : kH} {x y : Int32} : ex d mX0_knockOfMost 24 L (.int y :: .int x :: S) h = exLt y x d mX0_knockOfMost 27 29 L S h := kx_ge X0_knockOfMost_24
theorem X0_tell_1b {d : Nat} {L : kL} {S : List Value} {h : kH} {x : Int32} : ex d mX0_tell 1 L (.int x :: S) h = exSw x 42 d mX0_tell L S h [(0, 28), (1, 35)] := X0_tell_1
theorem X1_prepare_55b {d : Nat} {L : kL} {S : List Value} {h : kH} {x y : Int32} : ex d mX1_prepare 55 L (.int y :: .int x :: S) h = exLt x y d mX1_prepare 58 117 L S h := kx_ge X1_prepare_55
theorem X1_marksFrom_8b {d : Nat} {L : kL} {S : List Value} {h : kH} {x : Int32} : ex d mX1_marksFrom 8 L (.int x :: S) h = exLt x (nI 0) d mX1_marksFrom 16 11 L S h := X1_marksFrom_8
theorem X1_marksFrom_13b {d : Nat} {L : kL} {S : List Value} {h : kH} {x y : Int32} : ex d mX1_marksFrom 13 L (.int y :: .int x :: S) h = exLt y x d mX1_marksFrom 16 18 L S h := kx_ge X1_marksFrom_13
theorem X1_marksFrom_45b {d : Nat} {L : kL} {S : List Value} {h : kH} {x : Int32} : ex d mX1_marksFrom 45 L (.int x :: S) h = exLt x (nI 0) d mX1_marksFrom 48 52 L S h := kx_ge X1_marksFrom_45
theorem X1_lay_19b {d : Nat} {L : kL} {S : List Value} {h : kH} {x y : Int32} : ex d mX1_lay 19 L (.int y :: .int x :: S) h = exLt x y d mX1_lay 22 23 L S h := kx_ge X1_lay_19
theorem X1_lay_30b {d : Nat} {L : kL} {S : List Value} {h : kH} {x y : Int32} : ex d mX1_lay 30 L (.int y :: .int x :: S) h = exLt x y d mX1_lay 33 165 L S h := kx_ge X1_lay_30
theorem X1_lay_66b {d : Nat} {L : kL} {S : List Value} {h : kH} {x : Int32} : ex d mX1_lay 66 L (.int x :: S) h = exLt x (nI 0) d mX1_lay 69 82 L S h := kx_ge X1_lay_66
theorem X1_lay_93b {d : Nat} {L : kL} {S : List Value} {h : kH} {x : Int32} : ex d mX1_lay 93 L (.int x :: S) h = exLt (nI 0) x d mX1_lay 96 109 L S h := kx_ge X1_lay_93
theorem X1_lay_116b {d : Nat} {L : kL} {S : List Value} {h : kH} {x : Int32} : ex d mX1_lay 116 L (.int x :: S) h = exLt x (nI 0) d mX1_lay 119 159 L S h := kx_ge X1_lay_116
theorem X1_lay_148b {d : Nat} {L : kL} {S : List Value} {h : kH} {x : Int32} : ex d mX1_lay 148 L (.int x :: S) h = exLt (nI 0) x d mX1_lay 159 151 L S h := X1_lay_148
theorem X1_takeHit_8b {d : Nat} {L : kL} {S : List Value} {h : kH} {x : Int32} : ex d mX1_takeHit 8 L (.int x :: S) h = exLt (nI 0) x d mX1_takeHit 11 42 L S h := kx_ge X1_takeHit_8
theorem X1_takeHit_22b {d : Nat} {L : kL} {S : List Value} {h : kH} {x : Int32} : ex d mX1_takeHit 22 L (.int x :: S) h = exEq x (nI 0) d mX1_takeHit 25 42 L S h := kx_ne X1_takeHit_22
theorem X1_takeHit_38b {d : Nat} {L : kL} {S : List Value} {h : kH} {x : Int32} : ex d mX1_takeHit 38 L (.int x :: S) h = exLt x (nI 0) d mX1_takeHit 42 41 L S h := X1_takeHit_38
theorem X1_takeHit_47b {d : Nat} {L : kL} {S : List Value} {h : kH} {x y : Int32} : ex d mX1_takeHit 47 L (.int y :: .int x :: S) h = exLt x y d mX1_takeHit 50 83 L S h := kx_ge X1_takeHit_47
theorem X1_findBest_22b {d : Nat} {L : kL} {S : List Value} {h : kH} {x y : Int32} : ex d mX1_findBest 22 L (.int y :: .int x :: S) h = exLt x y d mX1_findBest 25 125 L S h := kx_ge X1_findBest_22
theorem X1_findBest_33b {d : Nat} {L : kL} {S : List Value} {h : kH} {x y : Int32} : ex d mX1_findBest 33 L (.int y :: .int x :: S) h = exLt x y d mX1_findBest 125 36 L S h := X1_findBest_33
theorem X1_findBest_41b {d : Nat} {L : kL} {S : List Value} {h : kH} {x y : Int32} : ex d mX1_findBest 41 L (.int y :: .int x :: S) h = exLt x y d mX1_findBest 125 44 L S h := X1_findBest_41
theorem X1_findBest_54b {d : Nat} {L : kL} {S : List Value} {h : kH} {x y : Int32} : ex d mX1_findBest 54 L (.int y :: .int x :: S) h = exLt x y d mX1_findBest 57 60 L S h := kx_ge X1_findBest_54
theorem X1_findBest_73b {d : Nat} {L : kL} {S : List Value} {h : kH} {x y : Int32} : ex d mX1_findBest 73 L (.int y :: .int x :: S) h = exLt y x d mX1_findBest 98 76 L S h := X1_findBest_73
theorem X1_findBest_84b {d : Nat} {L : kL} {S : List Value} {h : kH} {x y : Int32} : ex d mX1_findBest 84 L (.int y :: .int x :: S) h = exEq x y d mX1_findBest 87 119 L S h := kx_ne X1_findBest_84
theorem X1_findBest_95b {d : Nat} {L : kL} {S : List Value} {h : kH} {x y : Int32} : ex d mX1_findBest 95 L (.int y :: .int x :: S) h = exLt y x d mX1_findBest 98 119 L S h := kx_ge X1_findBest_95
theorem X1_strengthsOf_9b {d : Nat} {L : kL} {S : List Value} {h : kH} {x y : Int32} : ex d mX1_strengthsOf 9 L (.int y :: .int x :: S) h = exLt x y d mX1_strengthsOf 12 32 L S h := kx_ge X1_strengthsOf_9
theorem X1_tickOfHit_1b {d : Nat} {L : kL} {S : List Value} {h : kH} {x : Int32} : ex d mX1_tickOfHit 1 L (.int x :: S) h = exLt x (nI 0) d mX1_tickOfHit 26 4 L S h := X1_tickOfHit_1
theorem X1_tickOfHit_9b {d : Nat} {L : kL} {S : List Value} {h : kH} {x y : Int32} : ex d mX1_tickOfHit 9 L (.int y :: .int x :: S) h = exLt x y d mX1_tickOfHit 12 26 L S h := kx_ge X1_tickOfHit_9
theorem X1_knockOf_7b {d : Nat} {L : kL} {S : List Value} {h : kH} {x y : Int32} : ex d mX1_knockOf 7 L (.int y :: .int x :: S) h = exLt x y d mX1_knockOf 10 35 L S h := kx_ge X1_knockOf_7
theorem X1_knockOf_19b {d : Nat} {L : kL} {S : List Value} {h : kH} {x : Int32} : ex d mX1_knockOf 19 L (.int x :: S) h = exEq x (nI 0) d mX1_knockOf 22 29 L S h := kx_ne X1_knockOf_19
theorem X1_mostOff_9b {d : Nat} {L : kL} {S : List Value} {h : kH} {x y : Int32} : ex d mX1_mostOff 9 L (.int y :: .int x :: S) h = exLt x y d mX1_mostOff 12 29 L S h := kx_ge X1_mostOff_9
theorem X1_tell_1b {d : Nat} {L : kL} {S : List Value} {h : kH} {x : Int32} : ex d mX1_tell 1 L (.int x :: S) h = exSw x 69 d mX1_tell L S h [(0, 36), (1, 41), (2, 46), (3, 51), (4, 57)] := X1_tell_1
theorem X2_lastTick_4b {d : Nat} {L : kL} {S : List Value} {h : kH} {x : Int32} : ex d mX2_lastTick 4 L (.int x :: S) h = exLt (nI 0) x d mX2_lastTick 7 21 L S h := kx_ge X2_lastTick_4
theorem X2_add_7b {d : Nat} {L : kL} {S : List Value} {h : kH} {x y : Int32} : ex d mX2_add 7 L (.int y :: .int x :: S) h = exLt x y d mX2_add 10 40 L S h := kx_ge X2_add_7
theorem X2_takeOut_1b {d : Nat} {L : kL} {S : List Value} {h : kH} {x : Int32} : ex d mX2_takeOut 1 L (.int x :: S) h = exLt x (nI 0) d mX2_takeOut 68 4 L S h := X2_takeOut_1
theorem X2_takeOut_9b {d : Nat} {L : kL} {S : List Value} {h : kH} {x y : Int32} : ex d mX2_takeOut 9 L (.int y :: .int x :: S) h = exLt x y d mX2_takeOut 12 68 L S h := kx_ge X2_takeOut_9
theorem X2_takeOutAll_19b {d : Nat} {L : kL} {S : List Value} {h : kH} {x y : Int32} : ex d mX2_takeOutAll 19 L (.int y :: .int x :: S) h = exLt x y d mX2_takeOutAll 22 74 L S h := kx_ge X2_takeOutAll_19
theorem X2_takeOutAll_25b {d : Nat} {L : kL} {S : List Value} {h : kH} {x y : Int32} : ex d mX2_takeOutAll 25 L (.int y :: .int x :: S) h = exLt x y d mX2_takeOutAll 28 50 L S h := kx_ge X2_takeOutAll_25
theorem X2_takeOutAll_32b {d : Nat} {L : kL} {S : List Value} {h : kH} {x y : Int32} : ex d mX2_takeOutAll 32 L (.int y :: .int x :: S) h = exLt x y d mX2_takeOutAll 35 50 L S h := kx_ge X2_takeOutAll_32
theorem X2_takeOutAll_41b {d : Nat} {L : kL} {S : List Value} {h : kH} {x y : Int32} : ex d mX2_takeOutAll 41 L (.int y :: .int x :: S) h = exEq x y d mX2_takeOutAll 44 50 L S h := kx_ne X2_takeOutAll_41
theorem X2_cutFrom_9b {d : Nat} {L : kL} {S : List Value} {h : kH} {x : Int32} : ex d mX2_cutFrom 9 L (.int x :: S) h = exLt (nI 0) x d mX2_cutFrom 12 21 L S h := kx_ge X2_cutFrom_9
theorem X2_cutFrom_48b {d : Nat} {L : kL} {S : List Value} {h : kH} {x y : Int32} : ex d mX2_cutFrom 48 L (.int y :: .int x :: S) h = exLt x y d mX2_cutFrom 51 94 L S h := kx_ge X2_cutFrom_48
theorem X2_cutFrom_67b {d : Nat} {L : kL} {S : List Value} {h : kH} {x y : Int32} : ex d mX2_cutFrom 67 L (.int y :: .int x :: S) h = exEq x y d mX2_cutFrom 70 88 L S h := kx_ne X2_cutFrom_67
theorem X3_put_10b {d : Nat} {L : kL} {S : List Value} {h : kH} {x y : Int32} : ex d mX3_put 10 L (.int y :: .int x :: S) h = exLt x y d mX3_put 13 29 L S h := kx_ge X3_put_10
theorem X3_put_38b {d : Nat} {L : kL} {S : List Value} {h : kH} {x y : Int32} : ex d mX3_put 38 L (.int y :: .int x :: S) h = exLt x y d mX3_put 41 78 L S h := kx_ge X3_put_38
theorem X3_putAll_11b {d : Nat} {L : kL} {S : List Value} {h : kH} {x y : Int32} : ex d mX3_putAll 11 L (.int y :: .int x :: S) h = exLt x y d mX3_putAll 14 50 L S h := kx_ge X3_putAll_11
theorem X3_putAll_20b {d : Nat} {L : kL} {S : List Value} {h : kH} {x y : Int32} : ex d mX3_putAll 20 L (.int y :: .int x :: S) h = exLt x y d mX3_putAll 50 23 L S h := X3_putAll_20
theorem X3_together_9b {d : Nat} {L : kL} {S : List Value} {h : kH} {x y : Int32} : ex d mX3_together 9 L (.int y :: .int x :: S) h = exLt x y d mX3_together 12 49 L S h := kx_ge X3_together_9
theorem X3_findPair_12b {d : Nat} {L : kL} {S : List Value} {h : kH} {x y : Int32} : ex d mX3_findPair 12 L (.int y :: .int x :: S) h = exLt x y d mX3_findPair 15 95 L S h := kx_ge X3_findPair_12
theorem X3_findPair_22b {d : Nat} {L : kL} {S : List Value} {h : kH} {x y : Int32} : ex d mX3_findPair 22 L (.int y :: .int x :: S) h = exLt x y d mX3_findPair 25 89 L S h := kx_ge X3_findPair_22
theorem X3_findPair_46b {d : Nat} {L : kL} {S : List Value} {h : kH} {x y : Int32} : ex d mX3_findPair 46 L (.int y :: .int x :: S) h = exLt y x d mX3_findPair 49 58 L S h := kx_ge X3_findPair_46
theorem X3_findPair_64b {d : Nat} {L : kL} {S : List Value} {h : kH} {x y : Int32} : ex d mX3_findPair 64 L (.int y :: .int x :: S) h = exLt y x d mX3_findPair 67 83 L S h := kx_ge X3_findPair_64
theorem X4_lastDay_4b {d : Nat} {L : kL} {S : List Value} {h : kH} {x : Int32} : ex d mX4_lastDay 4 L (.int x :: S) h = exLt (nI 0) x d mX4_lastDay 7 21 L S h := kx_ge X4_lastDay_4
theorem X4_begin_6b {d : Nat} {L : kL} {S : List Value} {h : kH} {x y : Int32} : ex d mX4_begin 6 L (.int y :: .int x :: S) h = exLt x y d mX4_begin 9 58 L S h := kx_ge X4_begin_6
theorem X4_begin_24b {d : Nat} {L : kL} {S : List Value} {h : kH} {x y : Int32} : ex d mX4_begin 24 L (.int y :: .int x :: S) h = exLt x y d mX4_begin 27 48 L S h := kx_ge X4_begin_24
theorem X4_write_4b {d : Nat} {L : kL} {S : List Value} {h : kH} {x : Int32} : ex d mX4_write 4 L (.int x :: S) h = exLt (nI 0) x d mX4_write 7 50 L S h := kx_ge X4_write_4
theorem X4_write_11b {d : Nat} {L : kL} {S : List Value} {h : kH} {x : Int32} : ex d mX4_write 11 L (.int x :: S) h = exEq x (nI 0) d mX4_write 50 14 L S h := X4_write_11
theorem X4_sumOfDays_9b {d : Nat} {L : kL} {S : List Value} {h : kH} {x y : Int32} : ex d mX4_sumOfDays 9 L (.int y :: .int x :: S) h = exLt x y d mX4_sumOfDays 12 28 L S h := kx_ge X4_sumOfDays_9
theorem X4_sumOfStrengths_11b {d : Nat} {L : kL} {S : List Value} {h : kH} {x y : Int32} : ex d mX4_sumOfStrengths 11 L (.int y :: .int x :: S) h = exLt x y d mX4_sumOfStrengths 14 31 L S h := kx_ge X4_sumOfStrengths_11
theorem X4_fit_14b {d : Nat} {L : kL} {S : List Value} {h : kH} {x y : Int32} : ex d mX4_fit 14 L (.int y :: .int x :: S) h = exLt x y d mX4_fit 17 65 L S h := kx_ge X4_fit_14
theorem X4_firstDayAt_58b {d : Nat} {L : kL} {S : List Value} {h : kH} {x : Int32} : ex d mX4_firstDayAt 58 L (.int x :: S) h = exLt x (nI 0) d mX4_firstDayAt 66 61 L S h := X4_firstDayAt_58
theorem X4_firstDayAt_70b {d : Nat} {L : kL} {S : List Value} {h : kH} {x : Int32} : ex d mX4_firstDayAt 70 L (.int x :: S) h = exLt (nI 0) x d mX4_firstDayAt 76 73 L S h := X4_firstDayAt_70
theorem X4_firstDayAt_93b {d : Nat} {L : kL} {S : List Value} {h : kH} {x : Int32} : ex d mX4_firstDayAt 93 L (.int x :: S) h = exLt (nI 0) x d mX4_firstDayAt 102 96 L S h := X4_firstDayAt_93
theorem X5_add_14b {d : Nat} {L : kL} {S : List Value} {h : kH} {x : Int32} : ex d mX5_add 14 L (.int x :: S) h = exLt (nI 0) x d mX5_add 19 17 L S h := X5_add_14
theorem X5_divisor_14b {d : Nat} {L : kL} {S : List Value} {h : kH} {x y : Int32} : ex d mX5_divisor 14 L (.int y :: .int x :: S) h = exLt x y d mX5_divisor 17 45 L S h := kx_ge X5_divisor_14
theorem X5_divisor_21b {d : Nat} {L : kL} {S : List Value} {h : kH} {x : Int32} : ex d mX5_divisor 21 L (.int x :: S) h = exEq x (nI 0) d mX5_divisor 45 24 L S h := X5_divisor_21
theorem X6_read_10b {d : Nat} {L : kL} {S : List Value} {h : kH} {x y : Int32} : ex d mX6_read 10 L (.int y :: .int x :: S) h = exLt y x d mX6_read 34 13 L S h := X6_read_10
theorem X6_read_20b {d : Nat} {L : kL} {S : List Value} {h : kH} {x : Int32} : ex d mX6_read 20 L (.int x :: S) h = exEq x (nI 0) d mX6_read 34 23 L S h := X6_read_20
theorem X6_readSpan_15b {d : Nat} {L : kL} {S : List Value} {h : kH} {x : Int32} : ex d mX6_readSpan 15 L (.int x :: S) h = exLt (nI 0) x d mX6_readSpan 18 48 L S h := kx_ge X6_readSpan_15
theorem X6_readSpan_24b {d : Nat} {L : kL} {S : List Value} {h : kH} {x y : Int32} : ex d mX6_readSpan 24 L (.int y :: .int x :: S) h = exLt y x d mX6_readSpan 48 27 L S h := X6_readSpan_24
theorem X6_readSpan_39b {d : Nat} {L : kL} {S : List Value} {h : kH} {x y : Int32} : ex d mX6_readSpan 39 L (.int y :: .int x :: S) h = exLt y x d mX6_readSpan 48 42 L S h := X6_readSpan_39
theorem X6_readSpan_73b {d : Nat} {L : kL} {S : List Value} {h : kH} {x : Int32} : ex d mX6_readSpan 73 L (.int x :: S) h = exEq x (nI 0) d mX6_readSpan 76 82 L S h := kx_ne X6_readSpan_73
theorem X6_readSpan_86b {d : Nat} {L : kL} {S : List Value} {h : kH} {x : Int32} : ex d mX6_readSpan 86 L (.int x :: S) h = exEq x (nI 0) d mX6_readSpan 89 129 L S h := kx_ne X6_readSpan_86
theorem X6_readSpan_95b {d : Nat} {L : kL} {S : List Value} {h : kH} {x y : Int32} : ex d mX6_readSpan 95 L (.int y :: .int x :: S) h = exLt x y d mX6_readSpan 98 129 L S h := kx_ge X6_readSpan_95
theorem X6_angleOf_21b {d : Nat} {L : kL} {S : List Value} {h : kH} {x y : Int32} : ex d mX6_angleOf 21 L (.int y :: .int x :: S) h = exLt x y d mX6_angleOf 24 85 L S h := kx_ge X6_angleOf_21
theorem X6_angleOf_32b {d : Nat} {L : kL} {S : List Value} {h : kH} {x y : Int32} : ex d mX6_angleOf 32 L (.int y :: .int x :: S) h = exLt x y d mX6_angleOf 35 85 L S h := kx_ge X6_angleOf_32
theorem X7_rate_1b {d : Nat} {L : kL} {S : List Value} {h : kH} {x : Int32} : ex d mX7_rate 1 L (.int x :: S) h = exSw x 151 d mX7_rate L S h [(0, 32), (1, 61), (2, 90), (3, 127)] := X7_rate_1
theorem X8_read_10b {d : Nat} {L : kL} {S : List Value} {h : kH} {x y : Int32} : ex d mX8_read 10 L (.int y :: .int x :: S) h = exLt y x d mX8_read 34 13 L S h := X8_read_10
theorem X8_read_20b {d : Nat} {L : kL} {S : List Value} {h : kH} {x : Int32} : ex d mX8_read 20 L (.int x :: S) h = exEq x (nI 0) d mX8_read 34 23 L S h := X8_read_20
theorem X8_readStep_6b {d : Nat} {L : kL} {S : List Value} {h : kH} {x : Int32} : ex d mX8_readStep 6 L (.int x :: S) h = exLt x (nI 0) d mX8_readStep 19 9 L S h := X8_readStep_6
theorem X8_readStep_16b {d : Nat} {L : kL} {S : List Value} {h : kH} {x : Int32} : ex d mX8_readStep 16 L (.int x :: S) h = exLt x (nI 0) d mX8_readStep 19 28 L S h := kx_ge X8_readStep_16
theorem X8_readStep_52b {d : Nat} {L : kL} {S : List Value} {h : kH} {x : Int32} : ex d mX8_readStep 52 L (.int x :: S) h = exEq x (nI 0) d mX8_readStep 55 73 L S h := kx_ne X8_readStep_52
theorem X8_readStep_58b {d : Nat} {L : kL} {S : List Value} {h : kH} {x y : Int32} : ex d mX8_readStep 58 L (.int y :: .int x :: S) h = exEq x y d mX8_readStep 67 61 L S h := X8_readStep_58
theorem X8_readStep_64b {d : Nat} {L : kL} {S : List Value} {h : kH} {x y : Int32} : ex d mX8_readStep 64 L (.int y :: .int x :: S) h = exEq x y d mX8_readStep 67 73 L S h := kx_ne X8_readStep_64
theorem X8_readStep_77b {d : Nat} {L : kL} {S : List Value} {h : kH} {x : Int32} : ex d mX8_readStep 77 L (.int x :: S) h = exEq x (nI 0) d mX8_readStep 80 120 L S h := kx_ne X8_readStep_77
theorem X8_readStep_86b {d : Nat} {L : kL} {S : List Value} {h : kH} {x y : Int32} : ex d mX8_readStep 86 L (.int y :: .int x :: S) h = exLt x y d mX8_readStep 89 120 L S h := kx_ge X8_readStep_86
theorem X8_filter_7b {d : Nat} {L : kL} {S : List Value} {h : kH} {x y : Int32} : ex d mX8_filter 7 L (.int y :: .int x :: S) h = exLt x y d mX8_filter 10 97 L S h := kx_ge X8_filter_7
theorem X8_filter_23b {d : Nat} {L : kL} {S : List Value} {h : kH} {x : Int32} : ex d mX8_filter 23 L (.int x :: S) h = exSw x 80 d mX8_filter L S h [(109, 56), (120, 64), (121, 72)] := X8_filter_23
theorem X8_sift_16b {d : Nat} {L : kL} {S : List Value} {h : kH} {x y : Int32} : ex d mX8_sift 16 L (.int y :: .int x :: S) h = exLt x y d mX8_sift 19 60 L S h := kx_ge X8_sift_16
theorem X8_sift_33b {d : Nat} {L : kL} {S : List Value} {h : kH} {x : Int32} : ex d mX8_sift 33 L (.int x :: S) h = exEq x (nI 0) d mX8_sift 54 36 L S h := X8_sift_33
theorem X8_stays_1b {d : Nat} {L : kL} {S : List Value} {h : kH} {x : Int32} : ex d mX8_stays 1 L (.int x :: S) h = exSw x 93 d mX8_stays L S h [(97, 44), (98, 55), (107, 66), (114, 82)] := X8_stays_1
theorem X8_stays_46b {d : Nat} {L : kL} {S : List Value} {h : kH} {x y : Int32} : ex d mX8_stays 46 L (.int y :: .int x :: S) h = exLt x y d mX8_stays 53 49 L S h := X8_stays_46
theorem X8_stays_57b {d : Nat} {L : kL} {S : List Value} {h : kH} {x y : Int32} : ex d mX8_stays 57 L (.int y :: .int x :: S) h = exLt y x d mX8_stays 64 60 L S h := X8_stays_57
theorem X8_stays_67b {d : Nat} {L : kL} {S : List Value} {h : kH} {x : Int32} : ex d mX8_stays 67 L (.int x :: S) h = exLt (nI 0) x d mX8_stays 70 80 L S h := kx_ge X8_stays_67
theorem X8_stays_73b {d : Nat} {L : kL} {S : List Value} {h : kH} {x : Int32} : ex d mX8_stays 73 L (.int x :: S) h = exEq x (nI 0) d mX8_stays 76 80 L S h := kx_ne X8_stays_73
theorem X8_stays_84b {d : Nat} {L : kL} {S : List Value} {h : kH} {x y : Int32} : ex d mX8_stays 84 L (.int y :: .int x :: S) h = exLt x y d mX8_stays 91 87 L S h := X8_stays_84
theorem X8_stays_95b {d : Nat} {L : kL} {S : List Value} {h : kH} {x y : Int32} : ex d mX8_stays 95 L (.int y :: .int x :: S) h = exLt x y d mX8_stays 98 102 L S h := kx_ge X8_stays_95
theorem X8_merge_14b {d : Nat} {L : kL} {S : List Value} {h : kH} {x y : Int32} : ex d mX8_merge 14 L (.int y :: .int x :: S) h = exLt x y d mX8_merge 17 103 L S h := kx_ge X8_merge_14
theorem X8_merge_27b {d : Nat} {L : kL} {S : List Value} {h : kH} {x : Int32} : ex d mX8_merge 27 L (.int x :: S) h = exLt x (nI 0) d mX8_merge 81 30 L S h := X8_merge_27
theorem X8_merge_45b {d : Nat} {L : kL} {S : List Value} {h : kH} {x y : Int32} : ex d mX8_merge 45 L (.int y :: .int x :: S) h = exLt x y d mX8_merge 48 81 L S h := kx_ge X8_merge_45
theorem X8_strengthen_7b {d : Nat} {L : kL} {S : List Value} {h : kH} {x y : Int32} : ex d mX8_strengthen 7 L (.int y :: .int x :: S) h = exLt x y d mX8_strengthen 10 44 L S h := kx_ge X8_strengthen_7
theorem X8_delay_7b {d : Nat} {L : kL} {S : List Value} {h : kH} {x y : Int32} : ex d mX8_delay 7 L (.int y :: .int x :: S) h = exLt x y d mX8_delay 10 26 L S h := kx_ge X8_delay_7
theorem X9_put_4b {d : Nat} {L : kL} {S : List Value} {h : kH} {x : Int32} : ex d mX9_put 4 L (.int x :: S) h = exLt x (nI 0) d mX9_put 49 7 L S h := X9_put_4
theorem X9_put_14b {d : Nat} {L : kL} {S : List Value} {h : kH} {x y : Int32} : ex d mX9_put 14 L (.int y :: .int x :: S) h = exLt x y d mX9_put 17 49 L S h := kx_ge X9_put_14
theorem X9_has_2b {d : Nat} {L : kL} {S : List Value} {h : kH} {x y : Int32} : ex d mX9_has 2 L (.int y :: .int x :: S) h = exLt x y d mX9_has 22 5 L S h := X9_has_2
theorem X9_has_7b {d : Nat} {L : kL} {S : List Value} {h : kH} {x y : Int32} : ex d mX9_has 7 L (.int y :: .int x :: S) h = exLt y x d mX9_has 22 10 L S h := X9_has_7
theorem X9_has_15b {d : Nat} {L : kL} {S : List Value} {h : kH} {x y : Int32} : ex d mX9_has 15 L (.int y :: .int x :: S) h = exLt y x d mX9_has 22 18 L S h := X9_has_15
theorem X9_hasEnded_8b {d : Nat} {L : kL} {S : List Value} {h : kH} {x y : Int32} : ex d mX9_hasEnded 8 L (.int y :: .int x :: S) h = exLt x y d mX9_hasEnded 15 11 L S h := X9_hasEnded_8
theorem X9_sign_4b {d : Nat} {L : kL} {S : List Value} {h : kH} {x : Int32} : ex d mX9_sign 4 L (.int x :: S) h = exLt x (nI 0) d mX9_sign 30 7 L S h := X9_sign_4
theorem X9_sign_15b {d : Nat} {L : kL} {S : List Value} {h : kH} {x y : Int32} : ex d mX9_sign 15 L (.int y :: .int x :: S) h = exLt x y d mX9_sign 18 30 L S h := kx_ge X9_sign_15
theorem X9_refuse_4b {d : Nat} {L : kL} {S : List Value} {h : kH} {x : Int32} : ex d mX9_refuse 4 L (.int x :: S) h = exEq x (nI 0) d mX9_refuse 7 18 L S h := kx_ne X9_refuse_4
theorem X9_isDigit_3b {d : Nat} {L : kL} {S : List Value} {h : kH} {x y : Int32} : ex d mX9_isDigit 3 L (.int y :: .int x :: S) h = exLt x y d mX9_isDigit 16 6 L S h := X9_isDigit_3
theorem X9_isDigit_9b {d : Nat} {L : kL} {S : List Value} {h : kH} {x y : Int32} : ex d mX9_isDigit 9 L (.int y :: .int x :: S) h = exLt y x d mX9_isDigit 16 12 L S h := X9_isDigit_9
theorem X9_readNumber_7b {d : Nat} {L : kL} {S : List Value} {h : kH} {x : Int32} : ex d mX9_readNumber 7 L (.int x :: S) h = exEq x (nI 0) d mX9_readNumber 10 19 L S h := kx_ne X9_readNumber_7
theorem X9_readNumber_25b {d : Nat} {L : kL} {S : List Value} {h : kH} {x y : Int32} : ex d mX9_readNumber 25 L (.int y :: .int x :: S) h = exLt x y d mX9_readNumber 28 67 L S h := kx_ge X9_readNumber_25
theorem X9_readNumber_35b {d : Nat} {L : kL} {S : List Value} {h : kH} {x : Int32} : ex d mX9_readNumber 35 L (.int x :: S) h = exEq x (nI 0) d mX9_readNumber 67 38 L S h := X9_readNumber_35
theorem X9_readNumber_74b {d : Nat} {L : kL} {S : List Value} {h : kH} {x : Int32} : ex d mX9_readNumber 74 L (.int x :: S) h = exEq x (nI 0) d mX9_readNumber 86 77 L S h := X9_readNumber_74
theorem X9_pass_7b {d : Nat} {L : kL} {S : List Value} {h : kH} {x y : Int32} : ex d mX9_pass 7 L (.int y :: .int x :: S) h = exLt x y d mX9_pass 28 10 L S h := X9_pass_7
theorem X9_pass_12b {d : Nat} {L : kL} {S : List Value} {h : kH} {x y : Int32} : ex d mX9_pass 12 L (.int y :: .int x :: S) h = exLt y x d mX9_pass 28 15 L S h := X9_pass_12
theorem X9_hasPart_4b {d : Nat} {L : kL} {S : List Value} {h : kH} {x : Int32} : ex d mX9_hasPart 4 L (.int x :: S) h = exEq x (nI 0) d mX9_hasPart 7 14 L S h := kx_ne X9_hasPart_4
theorem X9_hasPart_11b {d : Nat} {L : kL} {S : List Value} {h : kH} {x : Int32} : ex d mX9_hasPart 11 L (.int x :: S) h = exEq x (nI 0) d mX9_hasPart 16 14 L S h := X9_hasPart_11
theorem X9_hasPart_17b {d : Nat} {L : kL} {S : List Value} {h : kH} {x : Int32} : ex d mX9_hasPart 17 L (.int x :: S) h = exLt (nI 0) x d mX9_hasPart 20 28 L S h := kx_ge X9_hasPart_17
theorem X9_hasPart_30b {d : Nat} {L : kL} {S : List Value} {h : kH} {x y : Int32} : ex d mX9_hasPart 30 L (.int y :: .int x :: S) h = exLt x y d mX9_hasPart 42 33 L S h := X9_hasPart_30
theorem X9_hasPart_46b {d : Nat} {L : kL} {S : List Value} {h : kH} {x : Int32} : ex d mX9_hasPart 46 L (.int x :: S) h = exEq x (nI 0) d mX9_hasPart 49 53 L S h := kx_ne X9_hasPart_46
theorem X9_proofItems_10b {d : Nat} {L : kL} {S : List Value} {h : kH} {x y : Int32} : ex d mX9_proofItems 10 L (.int y :: .int x :: S) h = exLt y x d mX9_proofItems 154 13 L S h := X9_proofItems_10
theorem X9_proofItems_17b {d : Nat} {L : kL} {S : List Value} {h : kH} {x : Int32} : ex d mX9_proofItems 17 L (.int x :: S) h = exEq x (nI 0) d mX9_proofItems 20 154 L S h := kx_ne X9_proofItems_17
theorem X9_proofItems_30b {d : Nat} {L : kL} {S : List Value} {h : kH} {x : Int32} : ex d mX9_proofItems 30 L (.int x :: S) h = exEq x (nI 0) d mX9_proofItems 44 33 L S h := X9_proofItems_30
theorem X9_proofItems_34b {d : Nat} {L : kL} {S : List Value} {h : kH} {x : Int32} : ex d mX9_proofItems 34 L (.int x :: S) h = exEq x (nI 0) d mX9_proofItems 37 44 L S h := kx_ne X9_proofItems_34
theorem X9_proofItems_38b {d : Nat} {L : kL} {S : List Value} {h : kH} {x : Int32} : ex d mX9_proofItems 38 L (.int x :: S) h = exEq x (nI 0) d mX9_proofItems 41 44 L S h := kx_ne X9_proofItems_38
theorem X9_proofItems_49b {d : Nat} {L : kL} {S : List Value} {h : kH} {x : Int32} : ex d mX9_proofItems 49 L (.int x :: S) h = exEq x (nI 0) d mX9_proofItems 61 52 L S h := X9_proofItems_49
theorem X9_proofItems_65b {d : Nat} {L : kL} {S : List Value} {h : kH} {x y : Int32} : ex d mX9_proofItems 65 L (.int y :: .int x :: S) h = exEq x y d mX9_proofItems 68 100 L S h := kx_ne X9_proofItems_65
theorem X9_proofItems_70b {d : Nat} {L : kL} {S : List Value} {h : kH} {x y : Int32} : ex d mX9_proofItems 70 L (.int y :: .int x :: S) h = exLt x y d mX9_proofItems 82 73 L S h := X9_proofItems_70
theorem X9_proofItems_104b {d : Nat} {L : kL} {S : List Value} {h : kH} {x y : Int32} : ex d mX9_proofItems 104 L (.int y :: .int x :: S) h = exEq x y d mX9_proofItems 107 139 L S h := kx_ne X9_proofItems_104
theorem X9_proofItems_108b {d : Nat} {L : kL} {S : List Value} {h : kH} {x : Int32} : ex d mX9_proofItems 108 L (.int x :: S) h = exLt (nI 0) x d mX9_proofItems 111 139 L S h := kx_ge X9_proofItems_108
theorem X9_proofItems_112b {d : Nat} {L : kL} {S : List Value} {h : kH} {x : Int32} : ex d mX9_proofItems 112 L (.int x :: S) h = exEq x (nI 0) d mX9_proofItems 115 139 L S h := kx_ne X9_proofItems_112
theorem X9_proofKnock_10b {d : Nat} {L : kL} {S : List Value} {h : kH} {x : Int32} : ex d mX9_proofKnock 10 L (.int x :: S) h = exEq x (nI 0) d mX9_proofKnock 13 19 L S h := kx_ne X9_proofKnock_10
theorem X9_layItems_16b {d : Nat} {L : kL} {S : List Value} {h : kH} {x y : Int32} : ex d mX9_layItems 16 L (.int y :: .int x :: S) h = exLt x y d mX9_layItems 19 80 L S h := kx_ge X9_layItems_16
theorem X9_layItems_20b {d : Nat} {L : kL} {S : List Value} {h : kH} {x : Int32} : ex d mX9_layItems 20 L (.int x :: S) h = exEq x (nI 0) d mX9_layItems 23 80 L S h := kx_ne X9_layItems_20
theorem X9_layItems_27b {d : Nat} {L : kL} {S : List Value} {h : kH} {x : Int32} : ex d mX9_layItems 27 L (.int x :: S) h = exEq x (nI 0) d mX9_layItems 30 80 L S h := kx_ne X9_layItems_27
theorem X9_layItems_40b {d : Nat} {L : kL} {S : List Value} {h : kH} {x y : Int32} : ex d mX9_layItems 40 L (.int y :: .int x :: S) h = exEq x y d mX9_layItems 43 52 L S h := kx_ne X9_layItems_40
theorem X9_layItems_56b {d : Nat} {L : kL} {S : List Value} {h : kH} {x y : Int32} : ex d mX9_layItems 56 L (.int y :: .int x :: S) h = exEq x y d mX9_layItems 59 68 L S h := kx_ne X9_layItems_56
theorem X9_enterRounds_11b {d : Nat} {L : kL} {S : List Value} {h : kH} {x : Int32} : ex d mX9_enterRounds 11 L (.int x :: S) h = exLt x (nI 0) d mX9_enterRounds 19 14 L S h := X9_enterRounds_11
theorem X9_enterRounds_16b {d : Nat} {L : kL} {S : List Value} {h : kH} {x y : Int32} : ex d mX9_enterRounds 16 L (.int y :: .int x :: S) h = exLt x y d mX9_enterRounds 21 19 L S h := X9_enterRounds_16
theorem X9_endRound_20b {d : Nat} {L : kL} {S : List Value} {h : kH} {x y : Int32} : ex d mX9_endRound 20 L (.int y :: .int x :: S) h = exLt x y d mX9_endRound 28 23 L S h := X9_endRound_20
theorem X9_endRound_25b {d : Nat} {L : kL} {S : List Value} {h : kH} {x y : Int32} : ex d mX9_endRound 25 L (.int y :: .int x :: S) h = exLt y x d mX9_endRound 28 30 L S h := kx_ge X9_endRound_25
theorem X9_endRound_51b {d : Nat} {L : kL} {S : List Value} {h : kH} {x y : Int32} : ex d mX9_endRound 51 L (.int y :: .int x :: S) h = exLt x y d mX9_endRound 54 68 L S h := kx_ge X9_endRound_51
theorem X9_layKnock_33b {d : Nat} {L : kL} {S : List Value} {h : kH} {x y : Int32} : ex d mX9_layKnock 33 L (.int y :: .int x :: S) h = exLt x y d mX9_layKnock 39 36 L S h := X9_layKnock_33
theorem X9_layKnock_51b {d : Nat} {L : kL} {S : List Value} {h : kH} {x y : Int32} : ex d mX9_layKnock 51 L (.int y :: .int x :: S) h = exLt y x d mX9_layKnock 54 57 L S h := kx_ge X9_layKnock_51
theorem X10_forget_4b {d : Nat} {L : kL} {S : List Value} {h : kH} {x y : Int32} : ex d mX10_forget 4 L (.int y :: .int x :: S) h = exLt x y d mX10_forget 7 20 L S h := kx_ge X10_forget_4
theorem X10_isAhead_12b {d : Nat} {L : kL} {S : List Value} {h : kH} {x y : Int32} : ex d mX10_isAhead 12 L (.int y :: .int x :: S) h = exEq x y d mX10_isAhead 36 15 L S h := X10_isAhead_12
theorem X10_isAhead_27b {d : Nat} {L : kL} {S : List Value} {h : kH} {x y : Int32} : ex d mX10_isAhead 27 L (.int y :: .int x :: S) h = exLt y x d mX10_isAhead 30 34 L S h := kx_ge X10_isAhead_27
theorem X10_isAhead_48b {d : Nat} {L : kL} {S : List Value} {h : kH} {x y : Int32} : ex d mX10_isAhead 48 L (.int y :: .int x :: S) h = exEq x y d mX10_isAhead 72 51 L S h := X10_isAhead_48
theorem X10_isAhead_63b {d : Nat} {L : kL} {S : List Value} {h : kH} {x y : Int32} : ex d mX10_isAhead 63 L (.int y :: .int x :: S) h = exLt y x d mX10_isAhead 66 70 L S h := kx_ge X10_isAhead_63
theorem X10_isAhead_74b {d : Nat} {L : kL} {S : List Value} {h : kH} {x y : Int32} : ex d mX10_isAhead 74 L (.int y :: .int x :: S) h = exLt x y d mX10_isAhead 77 81 L S h := kx_ge X10_isAhead_74
theorem X10_kindAt_4b {d : Nat} {L : kL} {S : List Value} {h : kH} {x y : Int32} : ex d mX10_kindAt 4 L (.int y :: .int x :: S) h = exLt x y d mX10_kindAt 7 50 L S h := kx_ge X10_kindAt_4
theorem X10_kindAt_15b {d : Nat} {L : kL} {S : List Value} {h : kH} {x y : Int32} : ex d mX10_kindAt 15 L (.int y :: .int x :: S) h = exLt x y d mX10_kindAt 18 37 L S h := kx_ge X10_kindAt_15
theorem X10_kindAt_25b {d : Nat} {L : kL} {S : List Value} {h : kH} {x : Int32} : ex d mX10_kindAt 25 L (.int x :: S) h = exEq x (nI 0) d mX10_kindAt 31 28 L S h := X10_kindAt_25
theorem X10_kindAt_39b {d : Nat} {L : kL} {S : List Value} {h : kH} {x y : Int32} : ex d mX10_kindAt 39 L (.int y :: .int x :: S) h = exEq x y d mX10_kindAt 42 44 L S h := kx_ne X10_kindAt_39
theorem X10_add_4b {d : Nat} {L : kL} {S : List Value} {h : kH} {x : Int32} : ex d mX10_add 4 L (.int x :: S) h = exLt x (nI 0) d mX10_add 15 7 L S h := X10_add_4
theorem X10_add_12b {d : Nat} {L : kL} {S : List Value} {h : kH} {x y : Int32} : ex d mX10_add 12 L (.int y :: .int x :: S) h = exLt x y d mX10_add 16 15 L S h := X10_add_12
theorem X10_tell_8b {d : Nat} {L : kL} {S : List Value} {h : kH} {x : Int32} : ex d mX10_tell 8 L (.int x :: S) h = exLt x (nI 0) d mX10_tell 29 11 L S h := X10_tell_8
theorem X10_tell_17b {d : Nat} {L : kL} {S : List Value} {h : kH} {x y : Int32} : ex d mX10_tell 17 L (.int y :: .int x :: S) h = exLt x y d mX10_tell 20 29 L S h := kx_ge X10_tell_17
theorem X10_nameOf_1b {d : Nat} {L : kL} {S : List Value} {h : kH} {x : Int32} : ex d mX10_nameOf 1 L (.int x :: S) h = exSw x 44 d mX10_nameOf L S h [(0, 32), (1, 35), (2, 38), (3, 41)] := X10_nameOf_1
theorem X11_init_188b {d : Nat} {L : kL} {S : List Value} {h : kH} {x y : Int32} : ex d mX11_init 188 L (.int y :: .int x :: S) h = exLt x y d mX11_init 191 210 L S h := kx_ge X11_init_188
theorem X11_feed_13b {d : Nat} {L : kL} {S : List Value} {h : kH} {x y : Int32} : ex d mX11_feed 13 L (.int y :: .int x :: S) h = exLt y x d mX11_feed 16 18 L S h := kx_ge X11_feed_13
theorem X11_get_4b {d : Nat} {L : kL} {S : List Value} {h : kH} {x : Int32} : ex d mX11_get 4 L (.int x :: S) h = exEq x (nI 0) d mX11_get 17 7 L S h := X11_get_4
theorem X11_get_18b {d : Nat} {L : kL} {S : List Value} {h : kH} {x : Int32} : ex d mX11_get 18 L (.int x :: S) h = exSw x 173 d mX11_get L S h [(5, 76), (6, 84), (7, 92), (8, 100), (9, 108), (10, 119), (11, 127), (12, 138), (13, 146), (14, 151), (15, 162)] := X11_get_18
theorem X11_angle_1b {d : Nat} {L : kL} {S : List Value} {h : kH} {x : Int32} : ex d mX11_angle 1 L (.int x :: S) h = exLt x (nI 0) d mX11_angle 10 4 L S h := X11_angle_1
theorem X11_angle_7b {d : Nat} {L : kL} {S : List Value} {h : kH} {x y : Int32} : ex d mX11_angle 7 L (.int y :: .int x :: S) h = exLt y x d mX11_angle 10 16 L S h := kx_ge X11_angle_7
theorem X11_knock_5b {d : Nat} {L : kL} {S : List Value} {h : kH} {x : Int32} : ex d mX11_knock 5 L (.int x :: S) h = exEq x (nI 0) d mX11_knock 17 8 L S h := X11_knock_5
theorem X11_knock_9b {d : Nat} {L : kL} {S : List Value} {h : kH} {x : Int32} : ex d mX11_knock 9 L (.int x :: S) h = exLt x (nI 0) d mX11_knock 17 12 L S h := X11_knock_9
theorem X11_knock_14b {d : Nat} {L : kL} {S : List Value} {h : kH} {x y : Int32} : ex d mX11_knock 14 L (.int y :: .int x :: S) h = exLt y x d mX11_knock 17 19 L S h := kx_ge X11_knock_14
theorem X11_knock_20b {d : Nat} {L : kL} {S : List Value} {h : kH} {x : Int32} : ex d mX11_knock 20 L (.int x :: S) h = exSw x 68 d mX11_knock L S h [(0, 48), (1, 58)] := X11_knock_20
theorem X11_knock_69b {d : Nat} {L : kL} {S : List Value} {h : kH} {x : Int32} : ex d mX11_knock 69 L (.int x :: S) h = exLt (nI 0) x d mX11_knock 72 96 L S h := kx_ge X11_knock_69
theorem X11_ratio_4b {d : Nat} {L : kL} {S : List Value} {h : kH} {x : Int32} : ex d mX11_ratio 4 L (.int x :: S) h = exEq x (nI 0) d mX11_ratio 16 7 L S h := X11_ratio_4
theorem X11_ratio_8b {d : Nat} {L : kL} {S : List Value} {h : kH} {x : Int32} : ex d mX11_ratio 8 L (.int x :: S) h = exLt x (nI 0) d mX11_ratio 16 11 L S h := X11_ratio_8
theorem X11_ratio_13b {d : Nat} {L : kL} {S : List Value} {h : kH} {x y : Int32} : ex d mX11_ratio 13 L (.int y :: .int x :: S) h = exLt y x d mX11_ratio 16 18 L S h := kx_ge X11_ratio_13
theorem X11_ratio_31b {d : Nat} {L : kL} {S : List Value} {h : kH} {x : Int32} : ex d mX11_ratio 31 L (.int x :: S) h = exSw x 74 d mX11_ratio L S h [(0, 56), (1, 65)] := X11_ratio_31
theorem X11_isKind_1b {d : Nat} {L : kL} {S : List Value} {h : kH} {x : Int32} : ex d mX11_isKind 1 L (.int x :: S) h = exLt x (nI 0) d mX11_isKind 13 4 L S h := X11_isKind_1
theorem X11_isKind_6b {d : Nat} {L : kL} {S : List Value} {h : kH} {x y : Int32} : ex d mX11_isKind 6 L (.int y :: .int x :: S) h = exLt x y d mX11_isKind 9 13 L S h := kx_ge X11_isKind_6
theorem X11_isOption_1b {d : Nat} {L : kL} {S : List Value} {h : kH} {x : Int32} : ex d mX11_isOption 1 L (.int x :: S) h = exLt x (nI 0) d mX11_isOption 13 4 L S h := X11_isOption_1
theorem X11_isOption_6b {d : Nat} {L : kL} {S : List Value} {h : kH} {x y : Int32} : ex d mX11_isOption 6 L (.int y :: .int x :: S) h = exLt x y d mX11_isOption 9 13 L S h := kx_ge X11_isOption_6
theorem X11_isTurn_3b {d : Nat} {L : kL} {S : List Value} {h : kH} {x y : Int32} : ex d mX11_isTurn 3 L (.int y :: .int x :: S) h = exLt x y d mX11_isTurn 17 6 L S h := X11_isTurn_3
theorem X11_isTurn_10b {d : Nat} {L : kL} {S : List Value} {h : kH} {x y : Int32} : ex d mX11_isTurn 10 L (.int y :: .int x :: S) h = exLt y x d mX11_isTurn 17 13 L S h := X11_isTurn_10
theorem X11_isBearing_2b {d : Nat} {L : kL} {S : List Value} {h : kH} {x y : Int32} : ex d mX11_isBearing 2 L (.int y :: .int x :: S) h = exLt x y d mX11_isBearing 43 5 L S h := X11_isBearing_2
theorem X11_isBearing_8b {d : Nat} {L : kL} {S : List Value} {h : kH} {x y : Int32} : ex d mX11_isBearing 8 L (.int y :: .int x :: S) h = exLt y x d mX11_isBearing 43 11 L S h := X11_isBearing_8
theorem X11_isBearing_13b {d : Nat} {L : kL} {S : List Value} {h : kH} {x y : Int32} : ex d mX11_isBearing 13 L (.int y :: .int x :: S) h = exLt x y d mX11_isBearing 43 16 L S h := X11_isBearing_13
theorem X11_isBearing_19b {d : Nat} {L : kL} {S : List Value} {h : kH} {x y : Int32} : ex d mX11_isBearing 19 L (.int y :: .int x :: S) h = exLt y x d mX11_isBearing 43 22 L S h := X11_isBearing_19
theorem X11_isBearing_24b {d : Nat} {L : kL} {S : List Value} {h : kH} {x y : Int32} : ex d mX11_isBearing 24 L (.int y :: .int x :: S) h = exLt x y d mX11_isBearing 43 27 L S h := X11_isBearing_24
theorem X11_isBearing_31b {d : Nat} {L : kL} {S : List Value} {h : kH} {x y : Int32} : ex d mX11_isBearing 31 L (.int y :: .int x :: S) h = exLt y x d mX11_isBearing 43 34 L S h := X11_isBearing_31
theorem X11_isBearing_36b {d : Nat} {L : kL} {S : List Value} {h : kH} {x y : Int32} : ex d mX11_isBearing 36 L (.int y :: .int x :: S) h = exLt y x d mX11_isBearing 39 43 L S h := kx_ge X11_isBearing_36
theorem X11_isSeen_1b {d : Nat} {L : kL} {S : List Value} {h : kH} {x : Int32} : ex d mX11_isSeen 1 L (.int x :: S) h = exLt x (nI 0) d mX11_isSeen 19 4 L S h := X11_isSeen_1
theorem X11_isSeen_12b {d : Nat} {L : kL} {S : List Value} {h : kH} {x y : Int32} : ex d mX11_isSeen 12 L (.int y :: .int x :: S) h = exLt x y d mX11_isSeen 15 19 L S h := kx_ge X11_isSeen_12
theorem X11_bearing_6b {d : Nat} {L : kL} {S : List Value} {h : kH} {x : Int32} : ex d mX11_bearing 6 L (.int x :: S) h = exEq x (nI 0) d mX11_bearing 9 11 L S h := kx_ne X11_bearing_6
theorem X11_turn_4b {d : Nat} {L : kL} {S : List Value} {h : kH} {x : Int32} : ex d mX11_turn 4 L (.int x :: S) h = exEq x (nI 0) d mX11_turn 7 9 L S h := kx_ne X11_turn_4
theorem X11_speeds_11b {d : Nat} {L : kL} {S : List Value} {h : kH} {x : Int32} : ex d mX11_speeds 11 L (.int x :: S) h = exEq x (nI 0) d mX11_speeds 14 16 L S h := kx_ne X11_speeds_11
theorem X11_speeds_49b {d : Nat} {L : kL} {S : List Value} {h : kH} {x : Int32} : ex d mX11_speeds 49 L (.int x :: S) h = exEq x (nI 0) d mX11_speeds 60 52 L S h := X11_speeds_49
theorem X11_trace_12b {d : Nat} {L : kL} {S : List Value} {h : kH} {x : Int32} : ex d mX11_trace 12 L (.int x :: S) h = exEq x (nI 0) d mX11_trace 15 17 L S h := kx_ne X11_trace_12
theorem X11_trace_39b {d : Nat} {L : kL} {S : List Value} {h : kH} {x : Int32} : ex d mX11_trace 39 L (.int x :: S) h = exEq x (nI 0) d mX11_trace 50 42 L S h := X11_trace_39
theorem X11_trace_70b {d : Nat} {L : kL} {S : List Value} {h : kH} {x : Int32} : ex d mX11_trace 70 L (.int x :: S) h = exEq x (nI 0) d mX11_trace 75 73 L S h := X11_trace_70
theorem X11_filters_11b {d : Nat} {L : kL} {S : List Value} {h : kH} {x : Int32} : ex d mX11_filters 11 L (.int x :: S) h = exEq x (nI 0) d mX11_filters 14 16 L S h := kx_ne X11_filters_11
theorem X11_filters_49b {d : Nat} {L : kL} {S : List Value} {h : kH} {x : Int32} : ex d mX11_filters 49 L (.int x :: S) h = exEq x (nI 0) d mX11_filters 60 52 L S h := X11_filters_49
theorem X11_set_4b {d : Nat} {L : kL} {S : List Value} {h : kH} {x : Int32} : ex d mX11_set 4 L (.int x :: S) h = exEq x (nI 0) d mX11_set 25 7 L S h := X11_set_4
theorem X11_set_13b {d : Nat} {L : kL} {S : List Value} {h : kH} {x y : Int32} : ex d mX11_set 13 L (.int y :: .int x :: S) h = exLt x y d mX11_set 25 16 L S h := X11_set_13
theorem X11_set_22b {d : Nat} {L : kL} {S : List Value} {h : kH} {x y : Int32} : ex d mX11_set 22 L (.int y :: .int x :: S) h = exLt y x d mX11_set 25 27 L S h := kx_ge X11_set_22
theorem X11_drop_1b {d : Nat} {L : kL} {S : List Value} {h : kH} {x : Int32} : ex d mX11_drop 1 L (.int x :: S) h = exLt x (nI 0) d mX11_drop 18 4 L S h := X11_drop_1
theorem X11_drop_15b {d : Nat} {L : kL} {S : List Value} {h : kH} {x y : Int32} : ex d mX11_drop 15 L (.int y :: .int x :: S) h = exLt x y d mX11_drop 20 18 L S h := X11_drop_15
theorem X11_note_1b {d : Nat} {L : kL} {S : List Value} {h : kH} {x : Int32} : ex d mX11_note 1 L (.int x :: S) h = exLt x (nI 0) d mX11_note 11 4 L S h := X11_note_1
theorem X11_note_8b {d : Nat} {L : kL} {S : List Value} {h : kH} {x y : Int32} : ex d mX11_note 8 L (.int y :: .int x :: S) h = exLt y x d mX11_note 11 13 L S h := kx_ge X11_note_8
theorem X11_note_25b {d : Nat} {L : kL} {S : List Value} {h : kH} {x y : Int32} : ex d mX11_note 25 L (.int y :: .int x :: S) h = exLt x y d mX11_note 31 28 L S h := X11_note_25
theorem X11_note_41b {d : Nat} {L : kL} {S : List Value} {h : kH} {x : Int32} : ex d mX11_note 41 L (.int x :: S) h = exLt (nI 0) x d mX11_note 44 61 L S h := kx_ge X11_note_41
theorem X11_note_55b {d : Nat} {L : kL} {S : List Value} {h : kH} {x y : Int32} : ex d mX11_note 55 L (.int y :: .int x :: S) h = exLt y x d mX11_note 61 58 L S h := X11_note_55
theorem X11_note_80b {d : Nat} {L : kL} {S : List Value} {h : kH} {x y : Int32} : ex d mX11_note 80 L (.int y :: .int x :: S) h = exLt x y d mX11_note 83 126 L S h := kx_ge X11_note_80
theorem X11_note_88b {d : Nat} {L : kL} {S : List Value} {h : kH} {x : Int32} : ex d mX11_note 88 L (.int x :: S) h = exEq x (nI 0) d mX11_note 120 91 L S h := X11_note_88
theorem X11_undo_4b {d : Nat} {L : kL} {S : List Value} {h : kH} {x : Int32} : ex d mX11_undo 4 L (.int x :: S) h = exLt (nI 0) x d mX11_undo 9 7 L S h := X11_undo_4
theorem X11_comb_4b {d : Nat} {L : kL} {S : List Value} {h : kH} {x : Int32} : ex d mX11_comb 4 L (.int x :: S) h = exEq x (nI 0) d mX11_comb 24 7 L S h := X11_comb_4
theorem X11_comb_12b {d : Nat} {L : kL} {S : List Value} {h : kH} {x : Int32} : ex d mX11_comb 12 L (.int x :: S) h = exEq x (nI 0) d mX11_comb 24 15 L S h := X11_comb_12
theorem X11_comb_16b {d : Nat} {L : kL} {S : List Value} {h : kH} {x : Int32} : ex d mX11_comb 16 L (.int x :: S) h = exLt x (nI 0) d mX11_comb 24 19 L S h := X11_comb_16
theorem X11_comb_21b {d : Nat} {L : kL} {S : List Value} {h : kH} {x y : Int32} : ex d mX11_comb 21 L (.int y :: .int x :: S) h = exLt y x d mX11_comb 24 26 L S h := kx_ge X11_comb_21
theorem X11_hit_4b {d : Nat} {L : kL} {S : List Value} {h : kH} {x : Int32} : ex d mX11_hit 4 L (.int x :: S) h = exEq x (nI 0) d mX11_hit 19 7 L S h := X11_hit_4
theorem X11_hit_12b {d : Nat} {L : kL} {S : List Value} {h : kH} {x : Int32} : ex d mX11_hit 12 L (.int x :: S) h = exEq x (nI 0) d mX11_hit 19 15 L S h := X11_hit_12
theorem X11_hit_16b {d : Nat} {L : kL} {S : List Value} {h : kH} {x : Int32} : ex d mX11_hit 16 L (.int x :: S) h = exLt x (nI 0) d mX11_hit 19 21 L S h := kx_ge X11_hit_16
theorem X11_hit_50b {d : Nat} {L : kL} {S : List Value} {h : kH} {x y : Int32} : ex d mX11_hit 50 L (.int y :: .int x :: S) h = exLt x y d mX11_hit 53 64 L S h := kx_ge X11_hit_50
theorem X11_best_4b {d : Nat} {L : kL} {S : List Value} {h : kH} {x : Int32} : ex d mX11_best 4 L (.int x :: S) h = exEq x (nI 0) d mX11_best 17 7 L S h := X11_best_4
theorem X11_best_8b {d : Nat} {L : kL} {S : List Value} {h : kH} {x : Int32} : ex d mX11_best 8 L (.int x :: S) h = exLt x (nI 0) d mX11_best 17 11 L S h := X11_best_8
theorem X11_best_14b {d : Nat} {L : kL} {S : List Value} {h : kH} {x y : Int32} : ex d mX11_best 14 L (.int y :: .int x :: S) h = exLt y x d mX11_best 17 19 L S h := kx_ge X11_best_14
theorem X11_best_24b {d : Nat} {L : kL} {S : List Value} {h : kH} {x : Int32} : ex d mX11_best 24 L (.int x :: S) h = exEq x (nI 0) d mX11_best 27 30 L S h := kx_ne X11_best_24
theorem X11_best_33b {d : Nat} {L : kL} {S : List Value} {h : kH} {x y : Int32} : ex d mX11_best 33 L (.int y :: .int x :: S) h = exEq x y d mX11_best 36 48 L S h := kx_ne X11_best_33
theorem X11_side_4b {d : Nat} {L : kL} {S : List Value} {h : kH} {x : Int32} : ex d mX11_side 4 L (.int x :: S) h = exEq x (nI 0) d mX11_side 18 7 L S h := X11_side_4
theorem X11_side_10b {d : Nat} {L : kL} {S : List Value} {h : kH} {x y : Int32} : ex d mX11_side 10 L (.int y :: .int x :: S) h = exLt x y d mX11_side 18 13 L S h := X11_side_10
theorem X11_side_15b {d : Nat} {L : kL} {S : List Value} {h : kH} {x y : Int32} : ex d mX11_side 15 L (.int y :: .int x :: S) h = exLt y x d mX11_side 18 20 L S h := kx_ge X11_side_15
theorem X11_side_40b {d : Nat} {L : kL} {S : List Value} {h : kH} {x : Int32} : ex d mX11_side 40 L (.int x :: S) h = exEq x (nI 0) d mX11_side 43 46 L S h := kx_ne X11_side_40
theorem X11_side_79b {d : Nat} {L : kL} {S : List Value} {h : kH} {x : Int32} : ex d mX11_side 79 L (.int x :: S) h = exLt x (nI 0) d mX11_side 82 87 L S h := kx_ge X11_side_79
theorem X11_shared_4b {d : Nat} {L : kL} {S : List Value} {h : kH} {x : Int32} : ex d mX11_shared 4 L (.int x :: S) h = exEq x (nI 0) d mX11_shared 14 7 L S h := X11_shared_4
theorem X11_shared_11b {d : Nat} {L : kL} {S : List Value} {h : kH} {x : Int32} : ex d mX11_shared 11 L (.int x :: S) h = exEq x (nI 0) d mX11_shared 14 16 L S h := kx_ne X11_shared_11
theorem X11_shared_21b {d : Nat} {L : kL} {S : List Value} {h : kH} {x : Int32} : ex d mX11_shared 21 L (.int x :: S) h = exEq x (nI 0) d mX11_shared 24 27 L S h := kx_ne X11_shared_21
theorem X11_shared_44b {d : Nat} {L : kL} {S : List Value} {h : kH} {x : Int32} : ex d mX11_shared 44 L (.int x :: S) h = exEq x (nI 0) d mX11_shared 47 50 L S h := kx_ne X11_shared_44
theorem X11_both_4b {d : Nat} {L : kL} {S : List Value} {h : kH} {x : Int32} : ex d mX11_both 4 L (.int x :: S) h = exEq x (nI 0) d mX11_both 28 7 L S h := X11_both_4
theorem X11_both_11b {d : Nat} {L : kL} {S : List Value} {h : kH} {x : Int32} : ex d mX11_both 11 L (.int x :: S) h = exEq x (nI 0) d mX11_both 28 14 L S h := X11_both_11
theorem X11_both_16b {d : Nat} {L : kL} {S : List Value} {h : kH} {x y : Int32} : ex d mX11_both 16 L (.int y :: .int x :: S) h = exEq x y d mX11_both 28 19 L S h := X11_both_16
theorem X11_both_20b {d : Nat} {L : kL} {S : List Value} {h : kH} {x : Int32} : ex d mX11_both 20 L (.int x :: S) h = exLt x (nI 0) d mX11_both 28 23 L S h := X11_both_20
theorem X11_both_25b {d : Nat} {L : kL} {S : List Value} {h : kH} {x y : Int32} : ex d mX11_both 25 L (.int y :: .int x :: S) h = exLt y x d mX11_both 28 30 L S h := kx_ge X11_both_25
theorem X11_both_96b {d : Nat} {L : kL} {S : List Value} {h : kH} {x : Int32} : ex d mX11_both 96 L (.int x :: S) h = exEq x (nI 0) d mX11_both 99 102 L S h := kx_ne X11_both_96
theorem X11_both_103b {d : Nat} {L : kL} {S : List Value} {h : kH} {x : Int32} : ex d mX11_both 103 L (.int x :: S) h = exSw x 144 d mX11_both L S h [(0, 128), (1, 136)] := X11_both_103
theorem X11_window_2b {d : Nat} {L : kL} {S : List Value} {h : kH} {x y : Int32} : ex d mX11_window 2 L (.int y :: .int x :: S) h = exLt x y d mX11_window 38 5 L S h := X11_window_2
theorem X11_window_8b {d : Nat} {L : kL} {S : List Value} {h : kH} {x y : Int32} : ex d mX11_window 8 L (.int y :: .int x :: S) h = exLt y x d mX11_window 38 11 L S h := X11_window_8
theorem X11_window_12b {d : Nat} {L : kL} {S : List Value} {h : kH} {x : Int32} : ex d mX11_window 12 L (.int x :: S) h = exLt x (nI 0) d mX11_window 38 15 L S h := X11_window_12
theorem X11_window_17b {d : Nat} {L : kL} {S : List Value} {h : kH} {x y : Int32} : ex d mX11_window 17 L (.int y :: .int x :: S) h = exLt x y d mX11_window 20 38 L S h := kx_ge X11_window_17
theorem X11_window_24b {d : Nat} {L : kL} {S : List Value} {h : kH} {x : Int32} : ex d mX11_window 24 L (.int x :: S) h = exEq x (nI 0) d mX11_window 38 27 L S h := X11_window_24
theorem X11_window_29b {d : Nat} {L : kL} {S : List Value} {h : kH} {x : Int32} : ex d mX11_window 29 L (.int x :: S) h = exLt x (nI 0) d mX11_window 38 32 L S h := X11_window_29
theorem X11_window_35b {d : Nat} {L : kL} {S : List Value} {h : kH} {x y : Int32} : ex d mX11_window 35 L (.int y :: .int x :: S) h = exLt y x d mX11_window 38 40 L S h := kx_ge X11_window_35
theorem X11_window_47b {d : Nat} {L : kL} {S : List Value} {h : kH} {x : Int32} : ex d mX11_window 47 L (.int x :: S) h = exEq x (nI 0) d mX11_window 50 53 L S h := kx_ne X11_window_47
theorem X11_window_69b {d : Nat} {L : kL} {S : List Value} {h : kH} {x y : Int32} : ex d mX11_window 69 L (.int y :: .int x :: S) h = exEq x y d mX11_window 72 80 L S h := kx_ne X11_window_69
theorem X11_window_107b {d : Nat} {L : kL} {S : List Value} {h : kH} {x : Int32} : ex d mX11_window 107 L (.int x :: S) h = exLt x (nI 0) d mX11_window 110 113 L S h := kx_ge X11_window_107
theorem X11_window_115b {d : Nat} {L : kL} {S : List Value} {h : kH} {x : Int32} : ex d mX11_window 115 L (.int x :: S) h = exEq x (nI 0) d mX11_window 118 128 L S h := kx_ne X11_window_115
theorem X11_folded_4b {d : Nat} {L : kL} {S : List Value} {h : kH} {x : Int32} : ex d mX11_folded 4 L (.int x :: S) h = exEq x (nI 0) d mX11_folded 24 7 L S h := X11_folded_4
theorem X11_folded_11b {d : Nat} {L : kL} {S : List Value} {h : kH} {x : Int32} : ex d mX11_folded 11 L (.int x :: S) h = exEq x (nI 0) d mX11_folded 24 14 L S h := X11_folded_11
theorem X11_folded_15b {d : Nat} {L : kL} {S : List Value} {h : kH} {x : Int32} : ex d mX11_folded 15 L (.int x :: S) h = exLt x (nI 0) d mX11_folded 24 18 L S h := X11_folded_15
theorem X11_folded_21b {d : Nat} {L : kL} {S : List Value} {h : kH} {x y : Int32} : ex d mX11_folded 21 L (.int y :: .int x :: S) h = exLt y x d mX11_folded 24 26 L S h := kx_ge X11_folded_21
theorem X11_folded_31b {d : Nat} {L : kL} {S : List Value} {h : kH} {x : Int32} : ex d mX11_folded 31 L (.int x :: S) h = exEq x (nI 0) d mX11_folded 34 37 L S h := kx_ne X11_folded_31
theorem X11_folded_60b {d : Nat} {L : kL} {S : List Value} {h : kH} {x y : Int32} : ex d mX11_folded 60 L (.int y :: .int x :: S) h = exLt x y d mX11_folded 63 72 L S h := kx_ge X11_folded_60
theorem X11_foldHits_64b {d : Nat} {L : kL} {S : List Value} {h : kH} {x y : Int32} : ex d mX11_foldHits 64 L (.int y :: .int x :: S) h = exLt x y d mX11_foldHits 67 166 L S h := kx_ge X11_foldHits_64
theorem X11_foldHits_122b {d : Nat} {L : kL} {S : List Value} {h : kH} {x : Int32} : ex d mX11_foldHits 122 L (.int x :: S) h = exLt x (nI 0) d mX11_foldHits 160 125 L S h := X11_foldHits_122
theorem X11_foldHits_129b {d : Nat} {L : kL} {S : List Value} {h : kH} {x y : Int32} : ex d mX11_foldHits 129 L (.int y :: .int x :: S) h = exLt x y d mX11_foldHits 132 160 L S h := kx_ge X11_foldHits_129
theorem X11_depthOfEighths_23b {d : Nat} {L : kL} {S : List Value} {h : kH} {x y : Int32} : ex d mX11_depthOfEighths 23 L (.int y :: .int x :: S) h = exLt x y d mX11_depthOfEighths 26 66 L S h := kx_ge X11_depthOfEighths_23
theorem X11_depthOfEighths_67b {d : Nat} {L : kL} {S : List Value} {h : kH} {x : Int32} : ex d mX11_depthOfEighths 67 L (.int x :: S) h = exEq x (nI 0) d mX11_depthOfEighths 70 74 L S h := kx_ne X11_depthOfEighths_67
theorem X11_apart_4b {d : Nat} {L : kL} {S : List Value} {h : kH} {x : Int32} : ex d mX11_apart 4 L (.int x :: S) h = exEq x (nI 0) d mX11_apart 19 7 L S h := X11_apart_4
theorem X11_apart_11b {d : Nat} {L : kL} {S : List Value} {h : kH} {x : Int32} : ex d mX11_apart 11 L (.int x :: S) h = exEq x (nI 0) d mX11_apart 19 14 L S h := X11_apart_11
theorem X11_apart_16b {d : Nat} {L : kL} {S : List Value} {h : kH} {x y : Int32} : ex d mX11_apart 16 L (.int y :: .int x :: S) h = exEq x y d mX11_apart 19 21 L S h := kx_ne X11_apart_16
theorem X11_apart_124b {d : Nat} {L : kL} {S : List Value} {h : kH} {x y : Int32} : ex d mX11_apart 124 L (.int y :: .int x :: S) h = exLt y x d mX11_apart 171 127 L S h := X11_apart_124
theorem X11_apart_159b {d : Nat} {L : kL} {S : List Value} {h : kH} {x : Int32} : ex d mX11_apart 159 L (.int x :: S) h = exLt (nI 0) x d mX11_apart 162 165 L S h := kx_ge X11_apart_159
theorem X11_findBestSeen_9b {d : Nat} {L : kL} {S : List Value} {h : kH} {x : Int32} : ex d mX11_findBestSeen 9 L (.int x :: S) h = exEq x (nI 0) d mX11_findBestSeen 12 44 L S h := kx_ne X11_findBestSeen_9
theorem X11_layBest_14b {d : Nat} {L : kL} {S : List Value} {h : kH} {x : Int32} : ex d mX11_layBest 14 L (.int x :: S) h = exLt x (nI 0) d mX11_layBest 17 19 L S h := kx_ge X11_layBest_14
theorem X11_chain_4b {d : Nat} {L : kL} {S : List Value} {h : kH} {x : Int32} : ex d mX11_chain 4 L (.int x :: S) h = exEq x (nI 0) d mX11_chain 24 7 L S h := X11_chain_4
theorem X11_chain_12b {d : Nat} {L : kL} {S : List Value} {h : kH} {x : Int32} : ex d mX11_chain 12 L (.int x :: S) h = exEq x (nI 0) d mX11_chain 24 15 L S h := X11_chain_12
theorem X11_chain_16b {d : Nat} {L : kL} {S : List Value} {h : kH} {x : Int32} : ex d mX11_chain 16 L (.int x :: S) h = exLt x (nI 0) d mX11_chain 24 19 L S h := X11_chain_16
theorem X11_chain_21b {d : Nat} {L : kL} {S : List Value} {h : kH} {x y : Int32} : ex d mX11_chain 21 L (.int y :: .int x :: S) h = exLt y x d mX11_chain 24 26 L S h := kx_ge X11_chain_21
theorem X11_longest_4b {d : Nat} {L : kL} {S : List Value} {h : kH} {x : Int32} : ex d mX11_longest 4 L (.int x :: S) h = exEq x (nI 0) d mX11_longest 16 7 L S h := X11_longest_4
theorem X11_longest_8b {d : Nat} {L : kL} {S : List Value} {h : kH} {x : Int32} : ex d mX11_longest 8 L (.int x :: S) h = exLt x (nI 0) d mX11_longest 16 11 L S h := X11_longest_8
theorem X11_longest_13b {d : Nat} {L : kL} {S : List Value} {h : kH} {x y : Int32} : ex d mX11_longest 13 L (.int y :: .int x :: S) h = exLt y x d mX11_longest 16 18 L S h := kx_ge X11_longest_13
theorem X11_longest_25b {d : Nat} {L : kL} {S : List Value} {h : kH} {x : Int32} : ex d mX11_longest 25 L (.int x :: S) h = exEq x (nI 0) d mX11_longest 28 31 L S h := kx_ne X11_longest_25
theorem X11_longest_72b {d : Nat} {L : kL} {S : List Value} {h : kH} {x y : Int32} : ex d mX11_longest 72 L (.int y :: .int x :: S) h = exEq x y d mX11_longest 75 79 L S h := kx_ne X11_longest_72
theorem X11_ranked_4b {d : Nat} {L : kL} {S : List Value} {h : kH} {x : Int32} : ex d mX11_ranked 4 L (.int x :: S) h = exEq x (nI 0) d mX11_ranked 7 9 L S h := kx_ne X11_ranked_4
theorem X11_ranked_13b {d : Nat} {L : kL} {S : List Value} {h : kH} {x y : Int32} : ex d mX11_ranked 13 L (.int y :: .int x :: S) h = exLt x y d mX11_ranked 16 27 L S h := kx_ge X11_ranked_13
theorem X11_faults_1b {d : Nat} {L : kL} {S : List Value} {h : kH} {x : Int32} : ex d mX11_faults 1 L (.int x :: S) h = exEq x (nI 0) d mX11_faults 11 4 L S h := X11_faults_1
theorem X11_faults_6b {d : Nat} {L : kL} {S : List Value} {h : kH} {x y : Int32} : ex d mX11_faults 6 L (.int y :: .int x :: S) h = exEq x y d mX11_faults 11 9 L S h := X11_faults_6
theorem X11_faults_24b {d : Nat} {L : kL} {S : List Value} {h : kH} {x : Int32} : ex d mX11_faults 24 L (.int x :: S) h = exEq x (nI 0) d mX11_faults 27 37 L S h := kx_ne X11_faults_24
theorem X11_fault_1b {d : Nat} {L : kL} {S : List Value} {h : kH} {x : Int32} : ex d mX11_fault 1 L (.int x :: S) h = exLt x (nI 0) d mX11_fault 13 4 L S h := X11_fault_1
theorem X11_fault_5b {d : Nat} {L : kL} {S : List Value} {h : kH} {x : Int32} : ex d mX11_fault 5 L (.int x :: S) h = exLt x (nI 0) d mX11_fault 13 8 L S h := X11_fault_5
theorem X11_fault_10b {d : Nat} {L : kL} {S : List Value} {h : kH} {x y : Int32} : ex d mX11_fault 10 L (.int y :: .int x :: S) h = exLt y x d mX11_fault 13 15 L S h := kx_ge X11_fault_10
theorem X11_fault_35b {d : Nat} {L : kL} {S : List Value} {h : kH} {x y : Int32} : ex d mX11_fault 35 L (.int y :: .int x :: S) h = exLt x y d mX11_fault 38 50 L S h := kx_ge X11_fault_35
theorem X11_report_1b {d : Nat} {L : kL} {S : List Value} {h : kH} {x : Int32} : ex d mX11_report 1 L (.int x :: S) h = exLt x (nI 0) d mX11_report 9 4 L S h := X11_report_1
theorem X11_report_6b {d : Nat} {L : kL} {S : List Value} {h : kH} {x y : Int32} : ex d mX11_report 6 L (.int y :: .int x :: S) h = exLt x y d mX11_report 9 11 L S h := kx_ge X11_report_6
theorem X11_report_31b {d : Nat} {L : kL} {S : List Value} {h : kH} {x y : Int32} : ex d mX11_report 31 L (.int y :: .int x :: S) h = exLt x y d mX11_report 37 34 L S h := X11_report_31
theorem X11_report_56b {d : Nat} {L : kL} {S : List Value} {h : kH} {x y : Int32} : ex d mX11_report 56 L (.int y :: .int x :: S) h = exEq x y d mX11_report 59 64 L S h := kx_ne X11_report_56
theorem X11_report_69b {d : Nat} {L : kL} {S : List Value} {h : kH} {x y : Int32} : ex d mX11_report 69 L (.int y :: .int x :: S) h = exLt x y d mX11_report 72 80 L S h := kx_ge X11_report_69
theorem X11_tried_6b {d : Nat} {L : kL} {S : List Value} {h : kH} {x : Int32} : ex d mX11_tried 6 L (.int x :: S) h = exEq x (nI 0) d mX11_tried 33 9 L S h := X11_tried_6
theorem X11_tried_11b {d : Nat} {L : kL} {S : List Value} {h : kH} {x : Int32} : ex d mX11_tried 11 L (.int x :: S) h = exEq x (nI 0) d mX11_tried 22 14 L S h := X11_tried_11
theorem X11_tried_19b {d : Nat} {L : kL} {S : List Value} {h : kH} {x : Int32} : ex d mX11_tried 19 L (.int x :: S) h = exEq x (nI 0) d mX11_tried 33 22 L S h := X11_tried_19
theorem X11_tried_24b {d : Nat} {L : kL} {S : List Value} {h : kH} {x : Int32} : ex d mX11_tried 24 L (.int x :: S) h = exLt x (nI 0) d mX11_tried 33 27 L S h := X11_tried_24
theorem X11_tried_30b {d : Nat} {L : kL} {S : List Value} {h : kH} {x y : Int32} : ex d mX11_tried 30 L (.int y :: .int x :: S) h = exLt y x d mX11_tried 33 35 L S h := kx_ge X11_tried_30
theorem X11_tried_62b {d : Nat} {L : kL} {S : List Value} {h : kH} {x : Int32} : ex d mX11_tried 62 L (.int x :: S) h = exEq x (nI 0) d mX11_tried 65 75 L S h := kx_ne X11_tried_62
theorem X11_tried_83b {d : Nat} {L : kL} {S : List Value} {h : kH} {x y : Int32} : ex d mX11_tried 83 L (.int y :: .int x :: S) h = exEq x y d mX11_tried 86 113 L S h := kx_ne X11_tried_83
theorem X11_tried_137b {d : Nat} {L : kL} {S : List Value} {h : kH} {x : Int32} : ex d mX11_tried 137 L (.int x :: S) h = exEq x (nI 0) d mX11_tried 140 145 L S h := kx_ne X11_tried_137
theorem X11_bestTurn_4b {d : Nat} {L : kL} {S : List Value} {h : kH} {x : Int32} : ex d mX11_bestTurn 4 L (.int x :: S) h = exEq x (nI 0) d mX11_bestTurn 32 7 L S h := X11_bestTurn_4
theorem X11_bestTurn_11b {d : Nat} {L : kL} {S : List Value} {h : kH} {x : Int32} : ex d mX11_bestTurn 11 L (.int x :: S) h = exEq x (nI 0) d mX11_bestTurn 32 14 L S h := X11_bestTurn_11
theorem X11_bestTurn_18b {d : Nat} {L : kL} {S : List Value} {h : kH} {x : Int32} : ex d mX11_bestTurn 18 L (.int x :: S) h = exEq x (nI 0) d mX11_bestTurn 32 21 L S h := X11_bestTurn_18
theorem X11_bestTurn_23b {d : Nat} {L : kL} {S : List Value} {h : kH} {x : Int32} : ex d mX11_bestTurn 23 L (.int x :: S) h = exEq x (nI 0) d mX11_bestTurn 34 26 L S h := X11_bestTurn_23
theorem X11_bestTurn_29b {d : Nat} {L : kL} {S : List Value} {h : kH} {x y : Int32} : ex d mX11_bestTurn 29 L (.int y :: .int x :: S) h = exEq x y d mX11_bestTurn 34 32 L S h := X11_bestTurn_29
theorem X11_bestTurn_36b {d : Nat} {L : kL} {S : List Value} {h : kH} {x y : Int32} : ex d mX11_bestTurn 36 L (.int y :: .int x :: S) h = exLt y x d mX11_bestTurn 48 39 L S h := X11_bestTurn_36
theorem X11_bestTurn_45b {d : Nat} {L : kL} {S : List Value} {h : kH} {x y : Int32} : ex d mX11_bestTurn 45 L (.int y :: .int x :: S) h = exLt x y d mX11_bestTurn 50 48 L S h := X11_bestTurn_45
theorem X11_bestTurn_78b {d : Nat} {L : kL} {S : List Value} {h : kH} {x y : Int32} : ex d mX11_bestTurn 78 L (.int y :: .int x :: S) h = exLt y x d mX11_bestTurn 196 81 L S h := X11_bestTurn_78
theorem X11_bestTurn_119b {d : Nat} {L : kL} {S : List Value} {h : kH} {x y : Int32} : ex d mX11_bestTurn 119 L (.int y :: .int x :: S) h = exLt y x d mX11_bestTurn 146 122 L S h := X11_bestTurn_119
theorem X11_bestTurn_131b {d : Nat} {L : kL} {S : List Value} {h : kH} {x y : Int32} : ex d mX11_bestTurn 131 L (.int y :: .int x :: S) h = exEq x y d mX11_bestTurn 134 150 L S h := kx_ne X11_bestTurn_131
theorem X11_bestTurn_143b {d : Nat} {L : kL} {S : List Value} {h : kH} {x y : Int32} : ex d mX11_bestTurn 143 L (.int y :: .int x :: S) h = exLt y x d mX11_bestTurn 146 150 L S h := kx_ge X11_bestTurn_143
theorem X11_bestTurn_160b {d : Nat} {L : kL} {S : List Value} {h : kH} {x : Int32} : ex d mX11_bestTurn 160 L (.int x :: S) h = exLt x (nI 0) d mX11_bestTurn 190 163 L S h := X11_bestTurn_160
theorem X11_bestTurn_165b {d : Nat} {L : kL} {S : List Value} {h : kH} {x : Int32} : ex d mX11_bestTurn 165 L (.int x :: S) h = exEq x (nI 0) d mX11_bestTurn 190 168 L S h := X11_bestTurn_165
theorem X11_bestTurn_198b {d : Nat} {L : kL} {S : List Value} {h : kH} {x : Int32} : ex d mX11_bestTurn 198 L (.int x :: S) h = exEq x (nI 0) d mX11_bestTurn 201 206 L S h := kx_ne X11_bestTurn_198
theorem X11_check_10b {d : Nat} {L : kL} {S : List Value} {h : kH} {x : Int32} : ex d mX11_check 10 L (.int x :: S) h = exEq x (nI 0) d mX11_check 13 16 L S h := kx_ne X11_check_10
theorem X11_check_28b {d : Nat} {L : kL} {S : List Value} {h : kH} {x y : Int32} : ex d mX11_check 28 L (.int y :: .int x :: S) h = exLt x y d mX11_check 31 99 L S h := kx_ge X11_check_28
theorem X11_check_45b {d : Nat} {L : kL} {S : List Value} {h : kH} {x : Int32} : ex d mX11_check 45 L (.int x :: S) h = exLt x (nI 0) d mX11_check 48 54 L S h := kx_ge X11_check_45
theorem X11_check_75b {d : Nat} {L : kL} {S : List Value} {h : kH} {x y : Int32} : ex d mX11_check 75 L (.int y :: .int x :: S) h = exEq x y d mX11_check 80 78 L S h := X11_check_75
theorem X11_peel_4b {d : Nat} {L : kL} {S : List Value} {h : kH} {x : Int32} : ex d mX11_peel 4 L (.int x :: S) h = exEq x (nI 0) d mX11_peel 8 7 L S h := X11_peel_4
theorem X11_peel_37b {d : Nat} {L : kL} {S : List Value} {h : kH} {x y : Int32} : ex d mX11_peel 37 L (.int y :: .int x :: S) h = exLt x y d mX11_peel 40 165 L S h := kx_ge X11_peel_37
theorem X11_peel_64b {d : Nat} {L : kL} {S : List Value} {h : kH} {x y : Int32} : ex d mX11_peel 64 L (.int y :: .int x :: S) h = exLt x y d mX11_peel 165 67 L S h := X11_peel_64
theorem X11_peel_83b {d : Nat} {L : kL} {S : List Value} {h : kH} {x y : Int32} : ex d mX11_peel 83 L (.int y :: .int x :: S) h = exLt x y d mX11_peel 86 89 L S h := kx_ge X11_peel_83
theorem X11_firstAside_8b {d : Nat} {L : kL} {S : List Value} {h : kH} {x y : Int32} : ex d mX11_firstAside 8 L (.int y :: .int x :: S) h = exLt x y d mX11_firstAside 11 77 L S h := kx_ge X11_firstAside_8
theorem X11_firstAside_17b {d : Nat} {L : kL} {S : List Value} {h : kH} {x : Int32} : ex d mX11_firstAside 17 L (.int x :: S) h = exEq x (nI 0) d mX11_firstAside 20 71 L S h := kx_ne X11_firstAside_17
theorem X11_firstAside_52b {d : Nat} {L : kL} {S : List Value} {h : kH} {x : Int32} : ex d mX11_firstAside 52 L (.int x :: S) h = exLt x (nI 0) d mX11_firstAside 68 55 L S h := X11_firstAside_52
theorem X11_firstAside_65b {d : Nat} {L : kL} {S : List Value} {h : kH} {x : Int32} : ex d mX11_firstAside 65 L (.int x :: S) h = exEq x (nI 0) d mX11_firstAside 71 68 L S h := X11_firstAside_65
theorem X11_lag_6b {d : Nat} {L : kL} {S : List Value} {h : kH} {x : Int32} : ex d mX11_lag 6 L (.int x :: S) h = exEq x (nI 0) d mX11_lag 9 11 L S h := kx_ne X11_lag_6
theorem X11_lags_6b {d : Nat} {L : kL} {S : List Value} {h : kH} {x : Int32} : ex d mX11_lags 6 L (.int x :: S) h = exEq x (nI 0) d mX11_lags 20 9 L S h := X11_lags_6
theorem X11_lags_11b {d : Nat} {L : kL} {S : List Value} {h : kH} {x : Int32} : ex d mX11_lags 11 L (.int x :: S) h = exEq x (nI 0) d mX11_lags 22 14 L S h := X11_lags_11
theorem X11_lags_17b {d : Nat} {L : kL} {S : List Value} {h : kH} {x y : Int32} : ex d mX11_lags 17 L (.int y :: .int x :: S) h = exEq x y d mX11_lags 22 20 L S h := X11_lags_17
theorem X11_lags_40b {d : Nat} {L : kL} {S : List Value} {h : kH} {x y : Int32} : ex d mX11_lags 40 L (.int y :: .int x :: S) h = exLt y x d mX11_lags 70 43 L S h := X11_lags_40
theorem X11_lags_57b {d : Nat} {L : kL} {S : List Value} {h : kH} {x y : Int32} : ex d mX11_lags 57 L (.int y :: .int x :: S) h = exLt y x d mX11_lags 60 64 L S h := kx_ge X11_lags_57
theorem X11_lags_72b {d : Nat} {L : kL} {S : List Value} {h : kH} {x : Int32} : ex d mX11_lags 72 L (.int x :: S) h = exEq x (nI 0) d mX11_lags 75 82 L S h := kx_ne X11_lags_72
theorem X11_areLags_2b {d : Nat} {L : kL} {S : List Value} {h : kH} {x y : Int32} : ex d mX11_areLags 2 L (.int y :: .int x :: S) h = exLt x y d mX11_areLags 40 5 L S h := X11_areLags_2
theorem X11_areLags_9b {d : Nat} {L : kL} {S : List Value} {h : kH} {x y : Int32} : ex d mX11_areLags 9 L (.int y :: .int x :: S) h = exLt y x d mX11_areLags 40 12 L S h := X11_areLags_9
theorem X11_areLags_14b {d : Nat} {L : kL} {S : List Value} {h : kH} {x y : Int32} : ex d mX11_areLags 14 L (.int y :: .int x :: S) h = exLt y x d mX11_areLags 40 17 L S h := X11_areLags_14
theorem X11_areLags_23b {d : Nat} {L : kL} {S : List Value} {h : kH} {x y : Int32} : ex d mX11_areLags 23 L (.int y :: .int x :: S) h = exLt x y d mX11_areLags 26 40 L S h := kx_ge X11_areLags_23
theorem X11_areLags_27b {d : Nat} {L : kL} {S : List Value} {h : kH} {x : Int32} : ex d mX11_areLags 27 L (.int x :: S) h = exLt x (nI 0) d mX11_areLags 40 30 L S h := X11_areLags_27
theorem X11_areLags_33b {d : Nat} {L : kL} {S : List Value} {h : kH} {x y : Int32} : ex d mX11_areLags 33 L (.int y :: .int x :: S) h = exLt y x d mX11_areLags 40 36 L S h := X11_areLags_33
theorem X11_sumPairs_30b {d : Nat} {L : kL} {S : List Value} {h : kH} {x y : Int32} : ex d mX11_sumPairs 30 L (.int y :: .int x :: S) h = exLt x y d mX11_sumPairs 33 144 L S h := kx_ge X11_sumPairs_30
theorem X11_sumPairs_48b {d : Nat} {L : kL} {S : List Value} {h : kH} {x y : Int32} : ex d mX11_sumPairs 48 L (.int y :: .int x :: S) h = exLt x y d mX11_sumPairs 51 138 L S h := kx_ge X11_sumPairs_48
theorem X11_sumPairs_74b {d : Nat} {L : kL} {S : List Value} {h : kH} {x y : Int32} : ex d mX11_sumPairs 74 L (.int y :: .int x :: S) h = exLt y x d mX11_sumPairs 138 77 L S h := X11_sumPairs_74
theorem X11_sumPairs_108b {d : Nat} {L : kL} {S : List Value} {h : kH} {x y : Int32} : ex d mX11_sumPairs 108 L (.int y :: .int x :: S) h = exLt x y d mX11_sumPairs 132 111 L S h := X11_sumPairs_108
theorem X11_sumPairs_118b {d : Nat} {L : kL} {S : List Value} {h : kH} {x y : Int32} : ex d mX11_sumPairs 118 L (.int y :: .int x :: S) h = exLt x y d mX11_sumPairs 121 132 L S h := kx_ge X11_sumPairs_118
theorem X11_sumPairs_154b {d : Nat} {L : kL} {S : List Value} {h : kH} {x y : Int32} : ex d mX11_sumPairs 154 L (.int y :: .int x :: S) h = exLt x y d mX11_sumPairs 157 182 L S h := kx_ge X11_sumPairs_154
theorem X11_pairsAt_9b {d : Nat} {L : kL} {S : List Value} {h : kH} {x : Int32} : ex d mX11_pairsAt 9 L (.int x :: S) h = exLt x (nI 0) d mX11_pairsAt 37 12 L S h := X11_pairsAt_9
theorem X11_pairsAt_18b {d : Nat} {L : kL} {S : List Value} {h : kH} {x y : Int32} : ex d mX11_pairsAt 18 L (.int y :: .int x :: S) h = exLt x y d mX11_pairsAt 21 37 L S h := kx_ge X11_pairsAt_18
theorem X11_nearest_2b {d : Nat} {L : kL} {S : List Value} {h : kH} {x y : Int32} : ex d mX11_nearest 2 L (.int y :: .int x :: S) h = exLt x y d mX11_nearest 21 5 L S h := X11_nearest_2
theorem X11_nearest_9b {d : Nat} {L : kL} {S : List Value} {h : kH} {x y : Int32} : ex d mX11_nearest 9 L (.int y :: .int x :: S) h = exLt y x d mX11_nearest 21 12 L S h := X11_nearest_9
theorem X11_nearest_13b {d : Nat} {L : kL} {S : List Value} {h : kH} {x : Int32} : ex d mX11_nearest 13 L (.int x :: S) h = exLt x (nI 0) d mX11_nearest 21 16 L S h := X11_nearest_13
theorem X11_nearest_18b {d : Nat} {L : kL} {S : List Value} {h : kH} {x y : Int32} : ex d mX11_nearest 18 L (.int y :: .int x :: S) h = exLt y x d mX11_nearest 21 23 L S h := kx_ge X11_nearest_18
theorem X11_nearest_40b {d : Nat} {L : kL} {S : List Value} {h : kH} {x y : Int32} : ex d mX11_nearest 40 L (.int y :: .int x :: S) h = exLt x y d mX11_nearest 43 164 L S h := kx_ge X11_nearest_40
theorem X11_nearest_62b {d : Nat} {L : kL} {S : List Value} {h : kH} {x y : Int32} : ex d mX11_nearest 62 L (.int y :: .int x :: S) h = exLt y x d mX11_nearest 158 65 L S h := X11_nearest_62
theorem X11_nearest_103b {d : Nat} {L : kL} {S : List Value} {h : kH} {x : Int32} : ex d mX11_nearest 103 L (.int x :: S) h = exEq x (nI 0) d mX11_nearest 131 106 L S h := X11_nearest_103
theorem X11_nearest_128b {d : Nat} {L : kL} {S : List Value} {h : kH} {x : Int32} : ex d mX11_nearest 128 L (.int x :: S) h = exLt x (nI 0) d mX11_nearest 131 152 L S h := kx_ge X11_nearest_128
theorem X11_nearest_165b {d : Nat} {L : kL} {S : List Value} {h : kH} {x : Int32} : ex d mX11_nearest 165 L (.int x :: S) h = exSw x 197 d mX11_nearest L S h [(0, 192), (1, 194)] := X11_nearest_165
theorem X11_noteIs_1b {d : Nat} {L : kL} {S : List Value} {h : kH} {x : Int32} : ex d mX11_noteIs 1 L (.int x :: S) h = exLt x (nI 0) d mX11_noteIs 28 4 L S h := X11_noteIs_1
theorem X11_noteIs_15b {d : Nat} {L : kL} {S : List Value} {h : kH} {x y : Int32} : ex d mX11_noteIs 15 L (.int y :: .int x :: S) h = exLt x y d mX11_noteIs 18 28 L S h := kx_ge X11_noteIs_15
theorem X11_noteIs_19b {d : Nat} {L : kL} {S : List Value} {h : kH} {x : Int32} : ex d mX11_noteIs 19 L (.int x :: S) h = exLt x (nI 0) d mX11_noteIs 28 22 L S h := X11_noteIs_19
theorem X11_noteIs_25b {d : Nat} {L : kL} {S : List Value} {h : kH} {x y : Int32} : ex d mX11_noteIs 25 L (.int y :: .int x :: S) h = exLt y x d mX11_noteIs 28 30 L S h := kx_ge X11_noteIs_25
theorem X11_noteIs_31b {d : Nat} {L : kL} {S : List Value} {h : kH} {x : Int32} : ex d mX11_noteIs 31 L (.int x :: S) h = exEq x (nI 0) d mX11_noteIs 34 49 L S h := kx_ne X11_noteIs_31
theorem X11_line_4b {d : Nat} {L : kL} {S : List Value} {h : kH} {x : Int32} : ex d mX11_line 4 L (.int x :: S) h = exEq x (nI 0) d mX11_line 30 7 L S h := X11_line_4
theorem X11_line_8b {d : Nat} {L : kL} {S : List Value} {h : kH} {x : Int32} : ex d mX11_line 8 L (.int x :: S) h = exLt x (nI 0) d mX11_line 30 11 L S h := X11_line_8
theorem X11_line_13b {d : Nat} {L : kL} {S : List Value} {h : kH} {x y : Int32} : ex d mX11_line 13 L (.int y :: .int x :: S) h = exLt y x d mX11_line 30 16 L S h := X11_line_13
theorem X11_line_27b {d : Nat} {L : kL} {S : List Value} {h : kH} {x y : Int32} : ex d mX11_line 27 L (.int y :: .int x :: S) h = exLt x y d mX11_line 30 34 L S h := kx_ge X11_line_27
theorem X11_line_50b {d : Nat} {L : kL} {S : List Value} {h : kH} {x : Int32} : ex d mX11_line 50 L (.int x :: S) h = exSw x 92 d mX11_line L S h [(0, 76), (1, 84)] := X11_line_50
theorem X11_due_4b {d : Nat} {L : kL} {S : List Value} {h : kH} {x : Int32} : ex d mX11_due 4 L (.int x :: S) h = exEq x (nI 0) d mX11_due 17 7 L S h := X11_due_4
theorem X11_due_8b {d : Nat} {L : kL} {S : List Value} {h : kH} {x : Int32} : ex d mX11_due 8 L (.int x :: S) h = exLt x (nI 0) d mX11_due 17 11 L S h := X11_due_8
theorem X11_due_14b {d : Nat} {L : kL} {S : List Value} {h : kH} {x y : Int32} : ex d mX11_due 14 L (.int y :: .int x :: S) h = exLt y x d mX11_due 17 19 L S h := kx_ge X11_due_14
theorem X11_due_30b {d : Nat} {L : kL} {S : List Value} {h : kH} {x y : Int32} : ex d mX11_due 30 L (.int y :: .int x :: S) h = exLt x y d mX11_due 33 36 L S h := kx_ge X11_due_30
theorem X12_in_3b {d : Nat} {L : kL} {S : List Value} {h : kH} {x : Int32} : ex d mX12_in 3 L (.int x :: S) h = exLt x (nI 0) d mX12_in 17 6 L S h := X12_in_3
theorem X12_in_10b {d : Nat} {L : kL} {S : List Value} {h : kH} {x : Int32} : ex d mX12_in 10 L (.int x :: S) h = exLt (nI 0) x d mX12_in 17 13 L S h := X12_in_10
theorem X12_min_2b {d : Nat} {L : kL} {S : List Value} {h : kH} {x y : Int32} : ex d mX12_min 2 L (.int y :: .int x :: S) h = exLt x y d mX12_min 5 9 L S h := kx_ge X12_min_2
theorem X12_max_2b {d : Nat} {L : kL} {S : List Value} {h : kH} {x y : Int32} : ex d mX12_max 2 L (.int y :: .int x :: S) h = exLt y x d mX12_max 5 9 L S h := kx_ge X12_max_2
theorem X12_size_3b {d : Nat} {L : kL} {S : List Value} {h : kH} {x : Int32} : ex d mX12_size 3 L (.int x :: S) h = exLt x (nI 0) d mX12_size 6 11 L S h := kx_ge X12_size_3
theorem X12_common_16b {d : Nat} {L : kL} {S : List Value} {h : kH} {x : Int32} : ex d mX12_common 16 L (.int x :: S) h = exEq x (nI 0) d mX12_common 37 19 L S h := X12_common_16
theorem X12_floored_10b {d : Nat} {L : kL} {S : List Value} {h : kH} {x : Int32} : ex d mX12_floored 10 L (.int x :: S) h = exLt x (nI 0) d mX12_floored 13 20 L S h := kx_ge X12_floored_10
theorem X12_remembers_6b {d : Nat} {L : kL} {S : List Value} {h : kH} {x y : Int32} : ex d mX12_remembers 6 L (.int y :: .int x :: S) h = exEq x y d mX12_remembers 9 50 L S h := kx_ne X12_remembers_6
theorem X12_remembers_15b {d : Nat} {L : kL} {S : List Value} {h : kH} {x y : Int32} : ex d mX12_remembers 15 L (.int y :: .int x :: S) h = exLt x y d mX12_remembers 18 40 L S h := kx_ge X12_remembers_15
theorem X12_remembers_56b {d : Nat} {L : kL} {S : List Value} {h : kH} {x y : Int32} : ex d mX12_remembers 56 L (.int y :: .int x :: S) h = exLt x y d mX12_remembers 59 86 L S h := kx_ge X12_remembers_56
theorem X12_undo_4b {d : Nat} {L : kL} {S : List Value} {h : kH} {x : Int32} : ex d mX12_undo 4 L (.int x :: S) h = exEq x (nI 0) d mX12_undo 7 9 L S h := kx_ne X12_undo_4
theorem X12_undo_25b {d : Nat} {L : kL} {S : List Value} {h : kH} {x y : Int32} : ex d mX12_undo 25 L (.int y :: .int x :: S) h = exLt x y d mX12_undo 28 55 L S h := kx_ge X12_undo_25
theorem X12_laysAside_6b {d : Nat} {L : kL} {S : List Value} {h : kH} {x y : Int32} : ex d mX12_laysAside 6 L (.int y :: .int x :: S) h = exLt x y d mX12_laysAside 9 27 L S h := kx_ge X12_laysAside_6
theorem X12_laysBack_6b {d : Nat} {L : kL} {S : List Value} {h : kH} {x y : Int32} : ex d mX12_laysBack 6 L (.int y :: .int x :: S) h = exLt x y d mX12_laysBack 9 27 L S h := kx_ge X12_laysBack_6
theorem X12_types_3b {d : Nat} {L : kL} {S : List Value} {h : kH} {x : Int32} : ex d mX12_types 3 L (.int x :: S) h = exLt x (nI 0) d mX12_types 38 6 L S h := X12_types_3
theorem X12_feed_10b {d : Nat} {L : kL} {S : List Value} {h : kH} {x y : Int32} : ex d mX12_feed 10 L (.int y :: .int x :: S) h = exLt y x d mX12_feed 13 15 L S h := kx_ge X12_feed_10
theorem X12_begins_9b {d : Nat} {L : kL} {S : List Value} {h : kH} {x : Int32} : ex d mX12_begins 9 L (.int x :: S) h = exEq x (nI 0) d mX12_begins 20 12 L S h := X12_begins_9
theorem X12_begins_17b {d : Nat} {L : kL} {S : List Value} {h : kH} {x y : Int32} : ex d mX12_begins 17 L (.int y :: .int x :: S) h = exLt y x d mX12_begins 20 22 L S h := kx_ge X12_begins_17
theorem X12_here_8b {d : Nat} {L : kL} {S : List Value} {h : kH} {x y : Int32} : ex d mX12_here 8 L (.int y :: .int x :: S) h = exLt x y d mX12_here 11 27 L S h := kx_ge X12_here_8
theorem X12_takesSign_5b {d : Nat} {L : kL} {S : List Value} {h : kH} {x y : Int32} : ex d mX12_takesSign 5 L (.int y :: .int x :: S) h = exEq x y d mX12_takesSign 18 8 L S h := X12_takesSign_5
theorem X12_readsNumber_15b {d : Nat} {L : kL} {S : List Value} {h : kH} {x : Int32} : ex d mX12_readsNumber 15 L (.int x :: S) h = exEq x (nI 0) d mX12_readsNumber 18 28 L S h := kx_ne X12_readsNumber_15
theorem X12_readsNumber_40b {d : Nat} {L : kL} {S : List Value} {h : kH} {x : Int32} : ex d mX12_readsNumber 40 L (.int x :: S) h = exEq x (nI 0) d mX12_readsNumber 98 43 L S h := X12_readsNumber_40
theorem X12_readsNumber_53b {d : Nat} {L : kL} {S : List Value} {h : kH} {x y : Int32} : ex d mX12_readsNumber 53 L (.int y :: .int x :: S) h = exEq x y d mX12_readsNumber 56 66 L S h := kx_ne X12_readsNumber_53
theorem X12_readsNumber_110b {d : Nat} {L : kL} {S : List Value} {h : kH} {x : Int32} : ex d mX12_readsNumber 110 L (.int x :: S) h = exEq x (nI 0) d mX12_readsNumber 113 125 L S h := kx_ne X12_readsNumber_110
theorem X12_readsNumber_122b {d : Nat} {L : kL} {S : List Value} {h : kH} {x : Int32} : ex d mX12_readsNumber 122 L (.int x :: S) h = exEq x (nI 0) d mX12_readsNumber 129 125 L S h := X12_readsNumber_122
theorem X12_isBearing_11b {d : Nat} {L : kL} {S : List Value} {h : kH} {x : Int32} : ex d mX12_isBearing 11 L (.int x :: S) h = exEq x (nI 0) d mX12_isBearing 49 14 L S h := X12_isBearing_11
theorem X12_isBearing_23b {d : Nat} {L : kL} {S : List Value} {h : kH} {x : Int32} : ex d mX12_isBearing 23 L (.int x :: S) h = exEq x (nI 0) d mX12_isBearing 49 26 L S h := X12_isBearing_23
theorem X12_isBearing_37b {d : Nat} {L : kL} {S : List Value} {h : kH} {x : Int32} : ex d mX12_isBearing 37 L (.int x :: S) h = exEq x (nI 0) d mX12_isBearing 49 40 L S h := X12_isBearing_37
theorem X12_isBearing_42b {d : Nat} {L : kL} {S : List Value} {h : kH} {x y : Int32} : ex d mX12_isBearing 42 L (.int y :: .int x :: S) h = exLt y x d mX12_isBearing 45 49 L S h := kx_ge X12_isBearing_42
theorem X12_bearing_6b {d : Nat} {L : kL} {S : List Value} {h : kH} {x : Int32} : ex d mX12_bearing 6 L (.int x :: S) h = exEq x (nI 0) d mX12_bearing 9 11 L S h := kx_ne X12_bearing_6
theorem X12_turn_4b {d : Nat} {L : kL} {S : List Value} {h : kH} {x : Int32} : ex d mX12_turn 4 L (.int x :: S) h = exEq x (nI 0) d mX12_turn 7 9 L S h := kx_ne X12_turn_4
theorem X12_readsSpan_6b {d : Nat} {L : kL} {S : List Value} {h : kH} {x y : Int32} : ex d mX12_readsSpan 6 L (.int y :: .int x :: S) h = exEq x y d mX12_readsSpan 9 19 L S h := kx_ne X12_readsSpan_6
theorem X12_readsSpan_23b {d : Nat} {L : kL} {S : List Value} {h : kH} {x : Int32} : ex d mX12_readsSpan 23 L (.int x :: S) h = exEq x (nI 0) d mX12_readsSpan 26 30 L S h := kx_ne X12_readsSpan_23
theorem X12_readsSpan_54b {d : Nat} {L : kL} {S : List Value} {h : kH} {x : Int32} : ex d mX12_readsSpan 54 L (.int x :: S) h = exEq x (nI 0) d mX12_readsSpan 57 59 L S h := kx_ne X12_readsSpan_54
theorem X12_readsSpan_80b {d : Nat} {L : kL} {S : List Value} {h : kH} {x : Int32} : ex d mX12_readsSpan 80 L (.int x :: S) h = exEq x (nI 0) d mX12_readsSpan 96 83 L S h := X12_readsSpan_80
theorem X12_readsSpan_93b {d : Nat} {L : kL} {S : List Value} {h : kH} {x : Int32} : ex d mX12_readsSpan 93 L (.int x :: S) h = exEq x (nI 0) d mX12_readsSpan 96 98 L S h := kx_ne X12_readsSpan_93
theorem X12_takesDraft_19b {d : Nat} {L : kL} {S : List Value} {h : kH} {x y : Int32} : ex d mX12_takesDraft 19 L (.int y :: .int x :: S) h = exLt x y d mX12_takesDraft 22 56 L S h := kx_ge X12_takesDraft_19
theorem X12_takesDraft_36b {d : Nat} {L : kL} {S : List Value} {h : kH} {x y : Int32} : ex d mX12_takesDraft 36 L (.int y :: .int x :: S) h = exLt x y d mX12_takesDraft 39 48 L S h := kx_ge X12_takesDraft_36
theorem X12_speeds_8b {d : Nat} {L : kL} {S : List Value} {h : kH} {x : Int32} : ex d mX12_speeds 8 L (.int x :: S) h = exEq x (nI 0) d mX12_speeds 11 13 L S h := kx_ne X12_speeds_8
theorem X12_speeds_19b {d : Nat} {L : kL} {S : List Value} {h : kH} {x : Int32} : ex d mX12_speeds 19 L (.int x :: S) h = exEq x (nI 0) d mX12_speeds 29 22 L S h := X12_speeds_19
theorem X12_speeds_26b {d : Nat} {L : kL} {S : List Value} {h : kH} {x : Int32} : ex d mX12_speeds 26 L (.int x :: S) h = exEq x (nI 0) d mX12_speeds 33 29 L S h := X12_speeds_26
theorem X12_speeds_36b {d : Nat} {L : kL} {S : List Value} {h : kH} {x : Int32} : ex d mX12_speeds 36 L (.int x :: S) h = exEq x (nI 0) d mX12_speeds 75 39 L S h := X12_speeds_36
theorem X12_speeds_47b {d : Nat} {L : kL} {S : List Value} {h : kH} {x y : Int32} : ex d mX12_speeds 47 L (.int y :: .int x :: S) h = exLt x y d mX12_speeds 50 75 L S h := kx_ge X12_speeds_47
theorem X12_speeds_56b {d : Nat} {L : kL} {S : List Value} {h : kH} {x : Int32} : ex d mX12_speeds 56 L (.int x :: S) h = exEq x (nI 0) d mX12_speeds 70 59 L S h := X12_speeds_56
theorem X12_speeds_63b {d : Nat} {L : kL} {S : List Value} {h : kH} {x : Int32} : ex d mX12_speeds 63 L (.int x :: S) h = exEq x (nI 0) d mX12_speeds 70 66 L S h := X12_speeds_63
theorem X12_speeds_76b {d : Nat} {L : kL} {S : List Value} {h : kH} {x : Int32} : ex d mX12_speeds 76 L (.int x :: S) h = exEq x (nI 0) d mX12_speeds 79 84 L S h := kx_ne X12_speeds_76
theorem X12_angleOf_26b {d : Nat} {L : kL} {S : List Value} {h : kH} {x y : Int32} : ex d mX12_angleOf 26 L (.int y :: .int x :: S) h = exLt y x d mX12_angleOf 138 29 L S h := X12_angleOf_26
theorem X12_angleOf_38b {d : Nat} {L : kL} {S : List Value} {h : kH} {x y : Int32} : ex d mX12_angleOf 38 L (.int y :: .int x :: S) h = exLt x y d mX12_angleOf 41 60 L S h := kx_ge X12_angleOf_38
theorem X12_angleOf_67b {d : Nat} {L : kL} {S : List Value} {h : kH} {x y : Int32} : ex d mX12_angleOf 67 L (.int y :: .int x :: S) h = exLt y x d mX12_angleOf 70 87 L S h := kx_ge X12_angleOf_67
theorem X12_angleOf_96b {d : Nat} {L : kL} {S : List Value} {h : kH} {x y : Int32} : ex d mX12_angleOf 96 L (.int y :: .int x :: S) h = exEq x y d mX12_angleOf 99 102 L S h := kx_ne X12_angleOf_96
theorem X12_angle_9b {d : Nat} {L : kL} {S : List Value} {h : kH} {x : Int32} : ex d mX12_angle 9 L (.int x :: S) h = exEq x (nI 0) d mX12_angle 20 12 L S h := X12_angle_9
theorem X12_findsRatio_39b {d : Nat} {L : kL} {S : List Value} {h : kH} {x : Int32} : ex d mX12_findsRatio 39 L (.int x :: S) h = exEq x (nI 0) d mX12_findsRatio 42 53 L S h := kx_ne X12_findsRatio_39
theorem X12_findsRatio_55b {d : Nat} {L : kL} {S : List Value} {h : kH} {x y : Int32} : ex d mX12_findsRatio 55 L (.int y :: .int x :: S) h = exEq x y d mX12_findsRatio 58 69 L S h := kx_ne X12_findsRatio_55
theorem X12_findsRatio_71b {d : Nat} {L : kL} {S : List Value} {h : kH} {x y : Int32} : ex d mX12_findsRatio 71 L (.int y :: .int x :: S) h = exEq x y d mX12_findsRatio 74 89 L S h := kx_ne X12_findsRatio_71
theorem X12_findsRatio_91b {d : Nat} {L : kL} {S : List Value} {h : kH} {x y : Int32} : ex d mX12_findsRatio 91 L (.int y :: .int x :: S) h = exEq x y d mX12_findsRatio 94 103 L S h := kx_ne X12_findsRatio_91
theorem X12_findsRatio_105b {d : Nat} {L : kL} {S : List Value} {h : kH} {x y : Int32} : ex d mX12_findsRatio 105 L (.int y :: .int x :: S) h = exLt x y d mX12_findsRatio 108 131 L S h := kx_ge X12_findsRatio_105
theorem X12_findsRatio_111b {d : Nat} {L : kL} {S : List Value} {h : kH} {x y : Int32} : ex d mX12_findsRatio 111 L (.int y :: .int x :: S) h = exEq x y d mX12_findsRatio 114 122 L S h := kx_ne X12_findsRatio_111
theorem X12_ratio_4b {d : Nat} {L : kL} {S : List Value} {h : kH} {x : Int32} : ex d mX12_ratio 4 L (.int x :: S) h = exEq x (nI 0) d mX12_ratio 19 7 L S h := X12_ratio_4
theorem X12_ratio_16b {d : Nat} {L : kL} {S : List Value} {h : kH} {x : Int32} : ex d mX12_ratio 16 L (.int x :: S) h = exEq x (nI 0) d mX12_ratio 19 21 L S h := kx_ne X12_ratio_16
theorem X12_ratio_27b {d : Nat} {L : kL} {S : List Value} {h : kH} {x : Int32} : ex d mX12_ratio 27 L (.int x :: S) h = exEq x (nI 0) d mX12_ratio 30 37 L S h := kx_ne X12_ratio_27
theorem X12_ratio_39b {d : Nat} {L : kL} {S : List Value} {h : kH} {x y : Int32} : ex d mX12_ratio 39 L (.int y :: .int x :: S) h = exEq x y d mX12_ratio 42 49 L S h := kx_ne X12_ratio_39
theorem X12_laysGap_7b {d : Nat} {L : kL} {S : List Value} {h : kH} {x y : Int32} : ex d mX12_laysGap 7 L (.int y :: .int x :: S) h = exLt x y d mX12_laysGap 10 30 L S h := kx_ge X12_laysGap_7
theorem X12_repeats_17b {d : Nat} {L : kL} {S : List Value} {h : kH} {x y : Int32} : ex d mX12_repeats 17 L (.int y :: .int x :: S) h = exLt x y d mX12_repeats 20 74 L S h := kx_ge X12_repeats_17
theorem X12_repeats_27b {d : Nat} {L : kL} {S : List Value} {h : kH} {x y : Int32} : ex d mX12_repeats 27 L (.int y :: .int x :: S) h = exLt y x d mX12_repeats 74 30 L S h := X12_repeats_27
theorem X12_readsItems_12b {d : Nat} {L : kL} {S : List Value} {h : kH} {x y : Int32} : ex d mX12_readsItems 12 L (.int y :: .int x :: S) h = exLt x y d mX12_readsItems 23 15 L S h := X12_readsItems_12
theorem X12_readsItems_16b {d : Nat} {L : kL} {S : List Value} {h : kH} {x : Int32} : ex d mX12_readsItems 16 L (.int x :: S) h = exEq x (nI 0) d mX12_readsItems 19 23 L S h := kx_ne X12_readsItems_16
theorem X12_readsItems_20b {d : Nat} {L : kL} {S : List Value} {h : kH} {x : Int32} : ex d mX12_readsItems 20 L (.int x :: S) h = exLt (nI 0) x d mX12_readsItems 23 236 L S h := kx_ge X12_readsItems_20
theorem X12_readsItems_31b {d : Nat} {L : kL} {S : List Value} {h : kH} {x y : Int32} : ex d mX12_readsItems 31 L (.int y :: .int x :: S) h = exEq x y d mX12_readsItems 34 78 L S h := kx_ne X12_readsItems_31
theorem X12_readsItems_36b {d : Nat} {L : kL} {S : List Value} {h : kH} {x y : Int32} : ex d mX12_readsItems 36 L (.int y :: .int x :: S) h = exEq x y d mX12_readsItems 39 49 L S h := kx_ne X12_readsItems_36
theorem X12_readsItems_81b {d : Nat} {L : kL} {S : List Value} {h : kH} {x y : Int32} : ex d mX12_readsItems 81 L (.int y :: .int x :: S) h = exEq x y d mX12_readsItems 84 163 L S h := kx_ne X12_readsItems_81
theorem X12_readsItems_85b {d : Nat} {L : kL} {S : List Value} {h : kH} {x : Int32} : ex d mX12_readsItems 85 L (.int x :: S) h = exLt (nI 0) x d mX12_readsItems 88 163 L S h := kx_ge X12_readsItems_85
theorem X12_readsItems_89b {d : Nat} {L : kL} {S : List Value} {h : kH} {x : Int32} : ex d mX12_readsItems 89 L (.int x :: S) h = exEq x (nI 0) d mX12_readsItems 92 163 L S h := kx_ne X12_readsItems_89
theorem X12_readsItems_116b {d : Nat} {L : kL} {S : List Value} {h : kH} {x : Int32} : ex d mX12_readsItems 116 L (.int x :: S) h = exEq x (nI 0) d mX12_readsItems 119 129 L S h := kx_ne X12_readsItems_116
theorem X12_readsItems_172b {d : Nat} {L : kL} {S : List Value} {h : kH} {x : Int32} : ex d mX12_readsItems 172 L (.int x :: S) h = exEq x (nI 0) d mX12_readsItems 175 177 L S h := kx_ne X12_readsItems_172
theorem X12_readsItems_191b {d : Nat} {L : kL} {S : List Value} {h : kH} {x : Int32} : ex d mX12_readsItems 191 L (.int x :: S) h = exEq x (nI 0) d mX12_readsItems 194 204 L S h := kx_ne X12_readsItems_191
theorem X12_trace_9b {d : Nat} {L : kL} {S : List Value} {h : kH} {x : Int32} : ex d mX12_trace 9 L (.int x :: S) h = exEq x (nI 0) d mX12_trace 12 14 L S h := kx_ne X12_trace_9
theorem X12_trace_23b {d : Nat} {L : kL} {S : List Value} {h : kH} {x : Int32} : ex d mX12_trace 23 L (.int x :: S) h = exEq x (nI 0) d mX12_trace 26 31 L S h := kx_ne X12_trace_23
theorem X12_trace_40b {d : Nat} {L : kL} {S : List Value} {h : kH} {x : Int32} : ex d mX12_trace 40 L (.int x :: S) h = exEq x (nI 0) d mX12_trace 43 47 L S h := kx_ne X12_trace_40
theorem X12_trace_69b {d : Nat} {L : kL} {S : List Value} {h : kH} {x y : Int32} : ex d mX12_trace 69 L (.int y :: .int x :: S) h = exLt x y d mX12_trace 72 110 L S h := kx_ge X12_trace_69
theorem X12_trace_79b {d : Nat} {L : kL} {S : List Value} {h : kH} {x y : Int32} : ex d mX12_trace 79 L (.int y :: .int x :: S) h = exEq x y d mX12_trace 82 85 L S h := kx_ne X12_trace_79
theorem X12_trace_98b {d : Nat} {L : kL} {S : List Value} {h : kH} {x y : Int32} : ex d mX12_trace 98 L (.int y :: .int x :: S) h = exLt y x d mX12_trace 101 104 L S h := kx_ge X12_trace_98
theorem X12_trace_123b {d : Nat} {L : kL} {S : List Value} {h : kH} {x y : Int32} : ex d mX12_trace 123 L (.int y :: .int x :: S) h = exLt x y d mX12_trace 126 191 L S h := kx_ge X12_trace_123
theorem X12_trace_143b {d : Nat} {L : kL} {S : List Value} {h : kH} {x : Int32} : ex d mX12_trace 143 L (.int x :: S) h = exEq x (nI 0) d mX12_trace 146 150 L S h := kx_ne X12_trace_143
theorem X12_drop_16b {d : Nat} {L : kL} {S : List Value} {h : kH} {x : Int32} : ex d mX12_drop 16 L (.int x :: S) h = exEq x (nI 0) d mX12_drop 19 21 L S h := kx_ne X12_drop_16
theorem X12_drop_51b {d : Nat} {L : kL} {S : List Value} {h : kH} {x y : Int32} : ex d mX12_drop 51 L (.int y :: .int x :: S) h = exLt x y d mX12_drop 54 104 L S h := kx_ge X12_drop_51
theorem X12_isStep_3b {d : Nat} {L : kL} {S : List Value} {h : kH} {x y : Int32} : ex d mX12_isStep 3 L (.int y :: .int x :: S) h = exEq x y d mX12_isStep 48 6 L S h := X12_isStep_3
theorem X12_isStep_9b {d : Nat} {L : kL} {S : List Value} {h : kH} {x y : Int32} : ex d mX12_isStep 9 L (.int y :: .int x :: S) h = exEq x y d mX12_isStep 48 12 L S h := X12_isStep_9
theorem X12_isStep_15b {d : Nat} {L : kL} {S : List Value} {h : kH} {x y : Int32} : ex d mX12_isStep 15 L (.int y :: .int x :: S) h = exEq x y d mX12_isStep 48 18 L S h := X12_isStep_15
theorem X12_isStep_21b {d : Nat} {L : kL} {S : List Value} {h : kH} {x y : Int32} : ex d mX12_isStep 21 L (.int y :: .int x :: S) h = exEq x y d mX12_isStep 48 24 L S h := X12_isStep_21
theorem X12_isStep_27b {d : Nat} {L : kL} {S : List Value} {h : kH} {x y : Int32} : ex d mX12_isStep 27 L (.int y :: .int x :: S) h = exEq x y d mX12_isStep 48 30 L S h := X12_isStep_27
theorem X12_isStep_33b {d : Nat} {L : kL} {S : List Value} {h : kH} {x y : Int32} : ex d mX12_isStep 33 L (.int y :: .int x :: S) h = exEq x y d mX12_isStep 48 36 L S h := X12_isStep_33
theorem X12_isStep_39b {d : Nat} {L : kL} {S : List Value} {h : kH} {x y : Int32} : ex d mX12_isStep 39 L (.int y :: .int x :: S) h = exEq x y d mX12_isStep 48 42 L S h := X12_isStep_39
theorem X12_isStep_45b {d : Nat} {L : kL} {S : List Value} {h : kH} {x y : Int32} : ex d mX12_isStep 45 L (.int y :: .int x :: S) h = exEq x y d mX12_isStep 48 52 L S h := kx_ne X12_isStep_45
theorem X12_readsStep_6b {d : Nat} {L : kL} {S : List Value} {h : kH} {x y : Int32} : ex d mX12_readsStep 6 L (.int y :: .int x :: S) h = exEq x y d mX12_readsStep 9 19 L S h := kx_ne X12_readsStep_6
theorem X12_readsStep_28b {d : Nat} {L : kL} {S : List Value} {h : kH} {x : Int32} : ex d mX12_readsStep 28 L (.int x :: S) h = exEq x (nI 0) d mX12_readsStep 31 41 L S h := kx_ne X12_readsStep_28
theorem X12_readsStep_56b {d : Nat} {L : kL} {S : List Value} {h : kH} {x y : Int32} : ex d mX12_readsStep 56 L (.int y :: .int x :: S) h = exEq x y d mX12_readsStep 65 59 L S h := X12_readsStep_56
theorem X12_readsStep_62b {d : Nat} {L : kL} {S : List Value} {h : kH} {x y : Int32} : ex d mX12_readsStep 62 L (.int y :: .int x :: S) h = exEq x y d mX12_readsStep 65 69 L S h := kx_ne X12_readsStep_62
theorem X12_readsStep_75b {d : Nat} {L : kL} {S : List Value} {h : kH} {x : Int32} : ex d mX12_readsStep 75 L (.int x :: S) h = exEq x (nI 0) d mX12_readsStep 78 80 L S h := kx_ne X12_readsStep_75
theorem X12_filters_8b {d : Nat} {L : kL} {S : List Value} {h : kH} {x : Int32} : ex d mX12_filters 8 L (.int x :: S) h = exEq x (nI 0) d mX12_filters 11 13 L S h := kx_ne X12_filters_8
theorem X12_filters_19b {d : Nat} {L : kL} {S : List Value} {h : kH} {x : Int32} : ex d mX12_filters 19 L (.int x :: S) h = exEq x (nI 0) d mX12_filters 29 22 L S h := X12_filters_19
theorem X12_filters_26b {d : Nat} {L : kL} {S : List Value} {h : kH} {x : Int32} : ex d mX12_filters 26 L (.int x :: S) h = exEq x (nI 0) d mX12_filters 33 29 L S h := X12_filters_26
theorem X12_filters_36b {d : Nat} {L : kL} {S : List Value} {h : kH} {x : Int32} : ex d mX12_filters 36 L (.int x :: S) h = exEq x (nI 0) d mX12_filters 75 39 L S h := X12_filters_36
theorem X12_filters_47b {d : Nat} {L : kL} {S : List Value} {h : kH} {x y : Int32} : ex d mX12_filters 47 L (.int y :: .int x :: S) h = exLt x y d mX12_filters 50 75 L S h := kx_ge X12_filters_47
theorem X12_filters_56b {d : Nat} {L : kL} {S : List Value} {h : kH} {x : Int32} : ex d mX12_filters 56 L (.int x :: S) h = exEq x (nI 0) d mX12_filters 70 59 L S h := X12_filters_56
theorem X12_filters_63b {d : Nat} {L : kL} {S : List Value} {h : kH} {x : Int32} : ex d mX12_filters 63 L (.int x :: S) h = exEq x (nI 0) d mX12_filters 70 66 L S h := X12_filters_63
theorem X12_filters_76b {d : Nat} {L : kL} {S : List Value} {h : kH} {x : Int32} : ex d mX12_filters 76 L (.int x :: S) h = exEq x (nI 0) d mX12_filters 79 84 L S h := kx_ne X12_filters_76
theorem X12_stays_1b {d : Nat} {L : kL} {S : List Value} {h : kH} {x : Int32} : ex d mX12_stays 1 L (.int x :: S) h = exSw x 157 d mX12_stays L S h [(97, 60), (98, 76), (107, 123), (109, 92), (114, 135), (119, 146)] := X12_stays_1
theorem X12_stays_67b {d : Nat} {L : kL} {S : List Value} {h : kH} {x y : Int32} : ex d mX12_stays 67 L (.int y :: .int x :: S) h = exLt x y d mX12_stays 74 70 L S h := X12_stays_67
theorem X12_stays_83b {d : Nat} {L : kL} {S : List Value} {h : kH} {x y : Int32} : ex d mX12_stays 83 L (.int y :: .int x :: S) h = exLt y x d mX12_stays 90 86 L S h := X12_stays_83
theorem X12_stays_94b {d : Nat} {L : kL} {S : List Value} {h : kH} {x : Int32} : ex d mX12_stays 94 L (.int x :: S) h = exEq x (nI 0) d mX12_stays 117 97 L S h := X12_stays_94
theorem X12_stays_114b {d : Nat} {L : kL} {S : List Value} {h : kH} {x y : Int32} : ex d mX12_stays 114 L (.int y :: .int x :: S) h = exLt x y d mX12_stays 121 117 L S h := X12_stays_114
theorem X12_stays_126b {d : Nat} {L : kL} {S : List Value} {h : kH} {x : Int32} : ex d mX12_stays 126 L (.int x :: S) h = exEq x (nI 0) d mX12_stays 129 133 L S h := kx_ne X12_stays_126
theorem X12_stays_137b {d : Nat} {L : kL} {S : List Value} {h : kH} {x y : Int32} : ex d mX12_stays 137 L (.int y :: .int x :: S) h = exLt x y d mX12_stays 144 140 L S h := X12_stays_137
theorem X12_stays_148b {d : Nat} {L : kL} {S : List Value} {h : kH} {x y : Int32} : ex d mX12_stays 148 L (.int y :: .int x :: S) h = exLt x y d mX12_stays 151 155 L S h := kx_ge X12_stays_148
theorem X12_goesThrough_11b {d : Nat} {L : kL} {S : List Value} {h : kH} {x y : Int32} : ex d mX12_goesThrough 11 L (.int y :: .int x :: S) h = exLt x y d mX12_goesThrough 14 137 L S h := kx_ge X12_goesThrough_11
theorem X12_goesThrough_17b {d : Nat} {L : kL} {S : List Value} {h : kH} {x y : Int32} : ex d mX12_goesThrough 17 L (.int y :: .int x :: S) h = exEq x y d mX12_goesThrough 20 48 L S h := kx_ne X12_goesThrough_17
theorem X12_goesThrough_51b {d : Nat} {L : kL} {S : List Value} {h : kH} {x y : Int32} : ex d mX12_goesThrough 51 L (.int y :: .int x :: S) h = exEq x y d mX12_goesThrough 54 70 L S h := kx_ne X12_goesThrough_51
theorem X12_goesThrough_79b {d : Nat} {L : kL} {S : List Value} {h : kH} {x : Int32} : ex d mX12_goesThrough 79 L (.int x :: S) h = exEq x (nI 0) d mX12_goesThrough 96 82 L S h := X12_goesThrough_79
theorem X12_goesThrough_99b {d : Nat} {L : kL} {S : List Value} {h : kH} {x y : Int32} : ex d mX12_goesThrough 99 L (.int y :: .int x :: S) h = exEq x y d mX12_goesThrough 102 131 L S h := kx_ne X12_goesThrough_99
theorem X12_sees_18b {d : Nat} {L : kL} {S : List Value} {h : kH} {x y : Int32} : ex d mX12_sees 18 L (.int y :: .int x :: S) h = exLt x y d mX12_sees 21 59 L S h := kx_ge X12_sees_18
theorem X12_sees_69b {d : Nat} {L : kL} {S : List Value} {h : kH} {x y : Int32} : ex d mX12_sees 69 L (.int y :: .int x :: S) h = exLt x y d mX12_sees 72 106 L S h := kx_ge X12_sees_69
theorem X12_sees_113b {d : Nat} {L : kL} {S : List Value} {h : kH} {x y : Int32} : ex d mX12_sees 113 L (.int y :: .int x :: S) h = exLt x y d mX12_sees 116 138 L S h := kx_ge X12_sees_113
theorem X12_knock_17b {d : Nat} {L : kL} {S : List Value} {h : kH} {x : Int32} : ex d mX12_knock 17 L (.int x :: S) h = exEq x (nI 0) d mX12_knock 32 20 L S h := X12_knock_17
theorem X12_knock_29b {d : Nat} {L : kL} {S : List Value} {h : kH} {x : Int32} : ex d mX12_knock 29 L (.int x :: S) h = exEq x (nI 0) d mX12_knock 32 34 L S h := kx_ne X12_knock_29
theorem X12_knock_35b {d : Nat} {L : kL} {S : List Value} {h : kH} {x : Int32} : ex d mX12_knock 35 L (.int x :: S) h = exEq x (nI 0) d mX12_knock 38 47 L S h := kx_ne X12_knock_35
theorem X12_knock_49b {d : Nat} {L : kL} {S : List Value} {h : kH} {x y : Int32} : ex d mX12_knock 49 L (.int y :: .int x :: S) h = exEq x y d mX12_knock 52 61 L S h := kx_ne X12_knock_49
theorem X12_knock_62b {d : Nat} {L : kL} {S : List Value} {h : kH} {x : Int32} : ex d mX12_knock 62 L (.int x :: S) h = exEq x (nI 0) d mX12_knock 65 70 L S h := kx_ne X12_knock_62
theorem X12_set_1b {d : Nat} {L : kL} {S : List Value} {h : kH} {x : Int32} : ex d mX12_set 1 L (.int x :: S) h = exEq x (nI 0) d mX12_set 4 10 L S h := kx_ne X12_set_1
theorem X12_set_12b {d : Nat} {L : kL} {S : List Value} {h : kH} {x y : Int32} : ex d mX12_set 12 L (.int y :: .int x :: S) h = exEq x y d mX12_set 20 15 L S h := X12_set_12
theorem X12_set_17b {d : Nat} {L : kL} {S : List Value} {h : kH} {x y : Int32} : ex d mX12_set 17 L (.int y :: .int x :: S) h = exEq x y d mX12_set 20 25 L S h := kx_ne X12_set_17
theorem X12_set_27b {d : Nat} {L : kL} {S : List Value} {h : kH} {x y : Int32} : ex d mX12_set 27 L (.int y :: .int x :: S) h = exEq x y d mX12_set 30 34 L S h := kx_ne X12_set_27
theorem X12_set_47b {d : Nat} {L : kL} {S : List Value} {h : kH} {x : Int32} : ex d mX12_set 47 L (.int x :: S) h = exEq x (nI 0) d mX12_set 72 50 L S h := X12_set_47
theorem X12_set_54b {d : Nat} {L : kL} {S : List Value} {h : kH} {x y : Int32} : ex d mX12_set 54 L (.int y :: .int x :: S) h = exEq x y d mX12_set 57 63 L S h := kx_ne X12_set_54
theorem X12_set_69b {d : Nat} {L : kL} {S : List Value} {h : kH} {x : Int32} : ex d mX12_set 69 L (.int x :: S) h = exEq x (nI 0) d mX12_set 72 74 L S h := kx_ne X12_set_69
theorem X12_get_9b {d : Nat} {L : kL} {S : List Value} {h : kH} {x : Int32} : ex d mX12_get 9 L (.int x :: S) h = exEq x (nI 0) d mX12_get 19 12 L S h := X12_get_9
theorem X12_get_20b {d : Nat} {L : kL} {S : List Value} {h : kH} {x : Int32} : ex d mX12_get 20 L (.int x :: S) h = exSw x 103 d mX12_get L S h [(10, 60), (11, 69), (12, 77), (13, 82), (14, 87), (15, 95)] := X12_get_20
theorem X12_lays__72b {d : Nat} {L : kL} {S : List Value} {h : kH} {x y : Int32} : ex d mX12_lays_ 72 L (.int y :: .int x :: S) h = exLt x y d mX12_lays_ 75 286 L S h := kx_ge X12_lays__72
theorem X12_lays__86b {d : Nat} {L : kL} {S : List Value} {h : kH} {x y : Int32} : ex d mX12_lays_ 86 L (.int y :: .int x :: S) h = exLt x y d mX12_lays_ 89 92 L S h := kx_ge X12_lays__86
theorem X12_lays__133b {d : Nat} {L : kL} {S : List Value} {h : kH} {x : Int32} : ex d mX12_lays_ 133 L (.int x :: S) h = exLt (nI 0) x d mX12_lays_ 136 148 L S h := kx_ge X12_lays__133
theorem X12_lays__175b {d : Nat} {L : kL} {S : List Value} {h : kH} {x : Int32} : ex d mX12_lays_ 175 L (.int x :: S) h = exLt x (nI 0) d mX12_lays_ 178 280 L S h := kx_ge X12_lays__175
theorem X12_lays__194b {d : Nat} {L : kL} {S : List Value} {h : kH} {x : Int32} : ex d mX12_lays_ 194 L (.int x :: S) h = exLt x (nI 0) d mX12_lays_ 197 202 L S h := kx_ge X12_lays__194
theorem X12_lays__207b {d : Nat} {L : kL} {S : List Value} {h : kH} {x : Int32} : ex d mX12_lays_ 207 L (.int x :: S) h = exLt (nI 0) x d mX12_lays_ 210 213 L S h := kx_ge X12_lays__207
theorem X12_lays__225b {d : Nat} {L : kL} {S : List Value} {h : kH} {x y : Int32} : ex d mX12_lays_ 225 L (.int y :: .int x :: S) h = exEq x y d mX12_lays_ 266 228 L S h := X12_lays__225
theorem X12_lays__239b {d : Nat} {L : kL} {S : List Value} {h : kH} {x : Int32} : ex d mX12_lays_ 239 L (.int x :: S) h = exEq x (nI 0) d mX12_lays_ 242 266 L S h := kx_ne X12_lays__239
theorem X12_lays__252b {d : Nat} {L : kL} {S : List Value} {h : kH} {x : Int32} : ex d mX12_lays_ 252 L (.int x :: S) h = exLt x (nI 0) d mX12_lays_ 258 255 L S h := X12_lays__252
theorem X12_lays__295b {d : Nat} {L : kL} {S : List Value} {h : kH} {x y : Int32} : ex d mX12_lays_ 295 L (.int y :: .int x :: S) h = exLt x y d mX12_lays_ 298 376 L S h := kx_ge X12_lays__295
theorem X12_lays__306b {d : Nat} {L : kL} {S : List Value} {h : kH} {x y : Int32} : ex d mX12_lays_ 306 L (.int y :: .int x :: S) h = exEq x y d mX12_lays_ 309 312 L S h := kx_ne X12_lays__306
theorem X12_lays__356b {d : Nat} {L : kL} {S : List Value} {h : kH} {x : Int32} : ex d mX12_lays_ 356 L (.int x :: S) h = exLt (nI 0) x d mX12_lays_ 359 370 L S h := kx_ge X12_lays__356
theorem X12_told_1b {d : Nat} {L : kL} {S : List Value} {h : kH} {x : Int32} : ex d mX12_told 1 L (.int x :: S) h = exSw x 67 d mX12_told L S h [(0, 36), (1, 41), (2, 47), (3, 52), (4, 57)] := X12_told_1
theorem X12_laysBest_15b {d : Nat} {L : kL} {S : List Value} {h : kH} {x y : Int32} : ex d mX12_laysBest 15 L (.int y :: .int x :: S) h = exLt x y d mX12_laysBest 18 81 L S h := kx_ge X12_laysBest_15
theorem X12_laysBest_32b {d : Nat} {L : kL} {S : List Value} {h : kH} {x : Int32} : ex d mX12_laysBest 32 L (.int x :: S) h = exLt x (nI 0) d mX12_laysBest 75 35 L S h := X12_laysBest_32
theorem X12_laysBest_40b {d : Nat} {L : kL} {S : List Value} {h : kH} {x y : Int32} : ex d mX12_laysBest 40 L (.int y :: .int x :: S) h = exLt x y d mX12_laysBest 75 43 L S h := X12_laysBest_40
theorem X12_laysBest_48b {d : Nat} {L : kL} {S : List Value} {h : kH} {x y : Int32} : ex d mX12_laysBest 48 L (.int y :: .int x :: S) h = exEq x y d mX12_laysBest 51 62 L S h := kx_ne X12_laysBest_48
theorem X12_laysBest_56b {d : Nat} {L : kL} {S : List Value} {h : kH} {x y : Int32} : ex d mX12_laysBest 56 L (.int y :: .int x :: S) h = exLt y x d mX12_laysBest 62 59 L S h := X12_laysBest_56
theorem X12_laysBest_83b {d : Nat} {L : kL} {S : List Value} {h : kH} {x y : Int32} : ex d mX12_laysBest 83 L (.int y :: .int x :: S) h = exEq x y d mX12_laysBest 91 86 L S h := X12_laysBest_83
theorem X12_comb_8b {d : Nat} {L : kL} {S : List Value} {h : kH} {x : Int32} : ex d mX12_comb 8 L (.int x :: S) h = exEq x (nI 0) d mX12_comb 39 11 L S h := X12_comb_8
theorem X12_comb_24b {d : Nat} {L : kL} {S : List Value} {h : kH} {x : Int32} : ex d mX12_comb 24 L (.int x :: S) h = exEq x (nI 0) d mX12_comb 39 27 L S h := X12_comb_24
theorem X12_comb_36b {d : Nat} {L : kL} {S : List Value} {h : kH} {x : Int32} : ex d mX12_comb 36 L (.int x :: S) h = exEq x (nI 0) d mX12_comb 39 41 L S h := kx_ne X12_comb_36
theorem X12_hit_8b {d : Nat} {L : kL} {S : List Value} {h : kH} {x : Int32} : ex d mX12_hit 8 L (.int x :: S) h = exEq x (nI 0) d mX12_hit 31 11 L S h := X12_hit_8
theorem X12_hit_24b {d : Nat} {L : kL} {S : List Value} {h : kH} {x : Int32} : ex d mX12_hit 24 L (.int x :: S) h = exEq x (nI 0) d mX12_hit 31 27 L S h := X12_hit_24
theorem X12_hit_28b {d : Nat} {L : kL} {S : List Value} {h : kH} {x : Int32} : ex d mX12_hit 28 L (.int x :: S) h = exLt x (nI 0) d mX12_hit 31 33 L S h := kx_ge X12_hit_28
theorem X12_hit_50b {d : Nat} {L : kL} {S : List Value} {h : kH} {x : Int32} : ex d mX12_hit 50 L (.int x :: S) h = exLt x (nI 0) d mX12_hit 56 53 L S h := X12_hit_50
theorem X12_hit_65b {d : Nat} {L : kL} {S : List Value} {h : kH} {x y : Int32} : ex d mX12_hit 65 L (.int y :: .int x :: S) h = exLt x y d mX12_hit 68 88 L S h := kx_ge X12_hit_65
theorem X12_hit_76b {d : Nat} {L : kL} {S : List Value} {h : kH} {x y : Int32} : ex d mX12_hit 76 L (.int y :: .int x :: S) h = exEq x y d mX12_hit 79 82 L S h := kx_ne X12_hit_76
theorem X12_best_4b {d : Nat} {L : kL} {S : List Value} {h : kH} {x : Int32} : ex d mX12_best 4 L (.int x :: S) h = exEq x (nI 0) d mX12_best 19 7 L S h := X12_best_4
theorem X12_best_16b {d : Nat} {L : kL} {S : List Value} {h : kH} {x : Int32} : ex d mX12_best 16 L (.int x :: S) h = exEq x (nI 0) d mX12_best 19 21 L S h := kx_ne X12_best_16
theorem X12_best_33b {d : Nat} {L : kL} {S : List Value} {h : kH} {x y : Int32} : ex d mX12_best 33 L (.int y :: .int x :: S) h = exEq x y d mX12_best 36 41 L S h := kx_ne X12_best_33
theorem X12_best_44b {d : Nat} {L : kL} {S : List Value} {h : kH} {x y : Int32} : ex d mX12_best 44 L (.int y :: .int x :: S) h = exEq x y d mX12_best 47 51 L S h := kx_ne X12_best_44
theorem X12_side_4b {d : Nat} {L : kL} {S : List Value} {h : kH} {x : Int32} : ex d mX12_side 4 L (.int x :: S) h = exEq x (nI 0) d mX12_side 21 7 L S h := X12_side_4
theorem X12_side_18b {d : Nat} {L : kL} {S : List Value} {h : kH} {x : Int32} : ex d mX12_side 18 L (.int x :: S) h = exEq x (nI 0) d mX12_side 21 23 L S h := kx_ne X12_side_18
theorem X12_side_54b {d : Nat} {L : kL} {S : List Value} {h : kH} {x : Int32} : ex d mX12_side 54 L (.int x :: S) h = exLt (nI 0) x d mX12_side 57 65 L S h := kx_ge X12_side_54
theorem X12_side_62b {d : Nat} {L : kL} {S : List Value} {h : kH} {x y : Int32} : ex d mX12_side 62 L (.int y :: .int x :: S) h = exEq x y d mX12_side 65 70 L S h := kx_ne X12_side_62
theorem X12_notesHits_7b {d : Nat} {L : kL} {S : List Value} {h : kH} {x y : Int32} : ex d mX12_notesHits 7 L (.int y :: .int x :: S) h = exLt x y d mX12_notesHits 10 37 L S h := kx_ge X12_notesHits_7
theorem X12_notesHits_22b {d : Nat} {L : kL} {S : List Value} {h : kH} {x y : Int32} : ex d mX12_notesHits 22 L (.int y :: .int x :: S) h = exEq x y d mX12_notesHits 29 25 L S h := X12_notesHits_22
theorem X12_shared_4b {d : Nat} {L : kL} {S : List Value} {h : kH} {x : Int32} : ex d mX12_shared 4 L (.int x :: S) h = exEq x (nI 0) d mX12_shared 14 7 L S h := X12_shared_4
theorem X12_shared_11b {d : Nat} {L : kL} {S : List Value} {h : kH} {x : Int32} : ex d mX12_shared 11 L (.int x :: S) h = exEq x (nI 0) d mX12_shared 14 16 L S h := kx_ne X12_shared_11
theorem X12_shared_26b {d : Nat} {L : kL} {S : List Value} {h : kH} {x y : Int32} : ex d mX12_shared 26 L (.int y :: .int x :: S) h = exEq x y d mX12_shared 29 32 L S h := kx_ne X12_shared_26
theorem X12_shared_42b {d : Nat} {L : kL} {S : List Value} {h : kH} {x y : Int32} : ex d mX12_shared 42 L (.int y :: .int x :: S) h = exEq x y d mX12_shared 45 48 L S h := kx_ne X12_shared_42
theorem X12_shared_59b {d : Nat} {L : kL} {S : List Value} {h : kH} {x y : Int32} : ex d mX12_shared 59 L (.int y :: .int x :: S) h = exLt x y d mX12_shared 62 93 L S h := kx_ge X12_shared_59
theorem X12_shared_69b {d : Nat} {L : kL} {S : List Value} {h : kH} {x : Int32} : ex d mX12_shared 69 L (.int x :: S) h = exEq x (nI 0) d mX12_shared 87 72 L S h := X12_shared_69
theorem X12_shared_80b {d : Nat} {L : kL} {S : List Value} {h : kH} {x y : Int32} : ex d mX12_shared 80 L (.int y :: .int x :: S) h = exEq x y d mX12_shared 87 83 L S h := X12_shared_80
theorem X12_laysSets_12b {d : Nat} {L : kL} {S : List Value} {h : kH} {x y : Int32} : ex d mX12_laysSets 12 L (.int y :: .int x :: S) h = exLt x y d mX12_laysSets 15 144 L S h := kx_ge X12_laysSets_12
theorem X12_laysSets_37b {d : Nat} {L : kL} {S : List Value} {h : kH} {x : Int32} : ex d mX12_laysSets 37 L (.int x :: S) h = exLt (nI 0) x d mX12_laysSets 40 44 L S h := kx_ge X12_laysSets_37
theorem X12_laysSets_52b {d : Nat} {L : kL} {S : List Value} {h : kH} {x y : Int32} : ex d mX12_laysSets 52 L (.int y :: .int x :: S) h = exLt x y d mX12_laysSets 55 79 L S h := kx_ge X12_laysSets_52
theorem X12_laysSets_88b {d : Nat} {L : kL} {S : List Value} {h : kH} {x y : Int32} : ex d mX12_laysSets 88 L (.int y :: .int x :: S) h = exLt x y d mX12_laysSets 91 138 L S h := kx_ge X12_laysSets_88
theorem X12_laysSets_99b {d : Nat} {L : kL} {S : List Value} {h : kH} {x y : Int32} : ex d mX12_laysSets 99 L (.int y :: .int x :: S) h = exEq x y d mX12_laysSets 132 102 L S h := X12_laysSets_99
theorem X12_bits_7b {d : Nat} {L : kL} {S : List Value} {h : kH} {x : Int32} : ex d mX12_bits 7 L (.int x :: S) h = exEq x (nI 0) d mX12_bits 23 10 L S h := X12_bits_7
theorem X12_joined_8b {d : Nat} {L : kL} {S : List Value} {h : kH} {x y : Int32} : ex d mX12_joined 8 L (.int y :: .int x :: S) h = exLt x y d mX12_joined 11 50 L S h := kx_ge X12_joined_8
theorem X12_both_4b {d : Nat} {L : kL} {S : List Value} {h : kH} {x : Int32} : ex d mX12_both 4 L (.int x :: S) h = exEq x (nI 0) d mX12_both 31 7 L S h := X12_both_4
theorem X12_both_11b {d : Nat} {L : kL} {S : List Value} {h : kH} {x : Int32} : ex d mX12_both 11 L (.int x :: S) h = exEq x (nI 0) d mX12_both 31 14 L S h := X12_both_11
theorem X12_both_16b {d : Nat} {L : kL} {S : List Value} {h : kH} {x y : Int32} : ex d mX12_both 16 L (.int y :: .int x :: S) h = exEq x y d mX12_both 31 19 L S h := X12_both_16
theorem X12_both_28b {d : Nat} {L : kL} {S : List Value} {h : kH} {x : Int32} : ex d mX12_both 28 L (.int x :: S) h = exEq x (nI 0) d mX12_both 31 33 L S h := kx_ne X12_both_28
theorem X12_both_70b {d : Nat} {L : kL} {S : List Value} {h : kH} {x y : Int32} : ex d mX12_both 70 L (.int y :: .int x :: S) h = exLt x y d mX12_both 73 156 L S h := kx_ge X12_both_70
theorem X12_both_82b {d : Nat} {L : kL} {S : List Value} {h : kH} {x y : Int32} : ex d mX12_both 82 L (.int y :: .int x :: S) h = exLt x y d mX12_both 85 150 L S h := kx_ge X12_both_82
theorem X12_both_92b {d : Nat} {L : kL} {S : List Value} {h : kH} {x : Int32} : ex d mX12_both 92 L (.int x :: S) h = exEq x (nI 0) d mX12_both 144 95 L S h := X12_both_92
theorem X12_both_106b {d : Nat} {L : kL} {S : List Value} {h : kH} {x : Int32} : ex d mX12_both 106 L (.int x :: S) h = exEq x (nI 0) d mX12_both 109 112 L S h := kx_ne X12_both_106
theorem X12_both_126b {d : Nat} {L : kL} {S : List Value} {h : kH} {x y : Int32} : ex d mX12_both 126 L (.int y :: .int x :: S) h = exLt y x d mX12_both 132 129 L S h := X12_both_126
theorem X12_both_157b {d : Nat} {L : kL} {S : List Value} {h : kH} {x : Int32} : ex d mX12_both 157 L (.int x :: S) h = exEq x (nI 0) d mX12_both 160 165 L S h := kx_ne X12_both_157
theorem X12_both_167b {d : Nat} {L : kL} {S : List Value} {h : kH} {x y : Int32} : ex d mX12_both 167 L (.int y :: .int x :: S) h = exEq x y d mX12_both 170 175 L S h := kx_ne X12_both_167
theorem X12_thins_9b {d : Nat} {L : kL} {S : List Value} {h : kH} {x y : Int32} : ex d mX12_thins 9 L (.int y :: .int x :: S) h = exLt x y d mX12_thins 12 49 L S h := kx_ge X12_thins_9
theorem X12_thins_15b {d : Nat} {L : kL} {S : List Value} {h : kH} {x : Int32} : ex d mX12_thins 15 L (.int x :: S) h = exEq x (nI 0) d mX12_thins 18 21 L S h := kx_ne X12_thins_15
theorem X12_window_9b {d : Nat} {L : kL} {S : List Value} {h : kH} {x : Int32} : ex d mX12_window 9 L (.int x :: S) h = exEq x (nI 0) d mX12_window 45 12 L S h := X12_window_9
theorem X12_window_22b {d : Nat} {L : kL} {S : List Value} {h : kH} {x : Int32} : ex d mX12_window 22 L (.int x :: S) h = exEq x (nI 0) d mX12_window 45 25 L S h := X12_window_22
theorem X12_window_29b {d : Nat} {L : kL} {S : List Value} {h : kH} {x : Int32} : ex d mX12_window 29 L (.int x :: S) h = exEq x (nI 0) d mX12_window 45 32 L S h := X12_window_29
theorem X12_window_42b {d : Nat} {L : kL} {S : List Value} {h : kH} {x : Int32} : ex d mX12_window 42 L (.int x :: S) h = exEq x (nI 0) d mX12_window 45 47 L S h := kx_ne X12_window_42
theorem X12_window_55b {d : Nat} {L : kL} {S : List Value} {h : kH} {x : Int32} : ex d mX12_window 55 L (.int x :: S) h = exEq x (nI 0) d mX12_window 58 61 L S h := kx_ne X12_window_55
theorem X12_window_96b {d : Nat} {L : kL} {S : List Value} {h : kH} {x y : Int32} : ex d mX12_window 96 L (.int y :: .int x :: S) h = exLt x y d mX12_window 99 141 L S h := kx_ge X12_window_96
theorem X12_window_126b {d : Nat} {L : kL} {S : List Value} {h : kH} {x : Int32} : ex d mX12_window 126 L (.int x :: S) h = exEq x (nI 0) d mX12_window 129 133 L S h := kx_ne X12_window_126
theorem X12_window_152b {d : Nat} {L : kL} {S : List Value} {h : kH} {x y : Int32} : ex d mX12_window 152 L (.int y :: .int x :: S) h = exEq x y d mX12_window 155 160 L S h := kx_ne X12_window_152
theorem X12_window_166b {d : Nat} {L : kL} {S : List Value} {h : kH} {x y : Int32} : ex d mX12_window 166 L (.int y :: .int x :: S) h = exEq x y d mX12_window 169 174 L S h := kx_ne X12_window_166
theorem X12_window_176b {d : Nat} {L : kL} {S : List Value} {h : kH} {x : Int32} : ex d mX12_window 176 L (.int x :: S) h = exEq x (nI 0) d mX12_window 179 186 L S h := kx_ne X12_window_176
theorem X12_nextOf_26b {d : Nat} {L : kL} {S : List Value} {h : kH} {x y : Int32} : ex d mX12_nextOf 26 L (.int y :: .int x :: S) h = exLt x y d mX12_nextOf 29 89 L S h := kx_ge X12_nextOf_26
theorem X12_nextOf_61b {d : Nat} {L : kL} {S : List Value} {h : kH} {x y : Int32} : ex d mX12_nextOf 61 L (.int y :: .int x :: S) h = exEq x y d mX12_nextOf 75 64 L S h := X12_nextOf_61
theorem X12_nextOf_69b {d : Nat} {L : kL} {S : List Value} {h : kH} {x : Int32} : ex d mX12_nextOf 69 L (.int x :: S) h = exLt x (nI 0) d mX12_nextOf 75 72 L S h := X12_nextOf_69
theorem X12_nextOf_92b {d : Nat} {L : kL} {S : List Value} {h : kH} {x y : Int32} : ex d mX12_nextOf 92 L (.int y :: .int x :: S) h = exEq x y d mX12_nextOf 125 95 L S h := X12_nextOf_92
theorem X12_nextOf_122b {d : Nat} {L : kL} {S : List Value} {h : kH} {x : Int32} : ex d mX12_nextOf 122 L (.int x :: S) h = exLt (nI 0) x d mX12_nextOf 125 129 L S h := kx_ge X12_nextOf_122
theorem X12_chains_26b {d : Nat} {L : kL} {S : List Value} {h : kH} {x y : Int32} : ex d mX12_chains 26 L (.int y :: .int x :: S) h = exLt y x d mX12_chains 81 29 L S h := X12_chains_26
theorem X12_chains_41b {d : Nat} {L : kL} {S : List Value} {h : kH} {x y : Int32} : ex d mX12_chains 41 L (.int y :: .int x :: S) h = exEq x y d mX12_chains 44 51 L S h := kx_ne X12_chains_41
theorem X12_toldChain_1b {d : Nat} {L : kL} {S : List Value} {h : kH} {x : Int32} : ex d mX12_toldChain 1 L (.int x :: S) h = exEq x (nI 0) d mX12_toldChain 4 11 L S h := kx_ne X12_toldChain_1
theorem X12_toldChain_13b {d : Nat} {L : kL} {S : List Value} {h : kH} {x y : Int32} : ex d mX12_toldChain 13 L (.int y :: .int x :: S) h = exEq x y d mX12_toldChain 16 23 L S h := kx_ne X12_toldChain_13
theorem X12_chain_8b {d : Nat} {L : kL} {S : List Value} {h : kH} {x : Int32} : ex d mX12_chain 8 L (.int x :: S) h = exEq x (nI 0) d mX12_chain 39 11 L S h := X12_chain_8
theorem X12_chain_24b {d : Nat} {L : kL} {S : List Value} {h : kH} {x : Int32} : ex d mX12_chain 24 L (.int x :: S) h = exEq x (nI 0) d mX12_chain 39 27 L S h := X12_chain_24
theorem X12_chain_36b {d : Nat} {L : kL} {S : List Value} {h : kH} {x : Int32} : ex d mX12_chain 36 L (.int x :: S) h = exEq x (nI 0) d mX12_chain 39 41 L S h := kx_ne X12_chain_36
theorem X12_longest_4b {d : Nat} {L : kL} {S : List Value} {h : kH} {x : Int32} : ex d mX12_longest 4 L (.int x :: S) h = exEq x (nI 0) d mX12_longest 19 7 L S h := X12_longest_4
theorem X12_longest_16b {d : Nat} {L : kL} {S : List Value} {h : kH} {x : Int32} : ex d mX12_longest 16 L (.int x :: S) h = exEq x (nI 0) d mX12_longest 19 21 L S h := kx_ne X12_longest_16
theorem X12_longest_29b {d : Nat} {L : kL} {S : List Value} {h : kH} {x : Int32} : ex d mX12_longest 29 L (.int x :: S) h = exEq x (nI 0) d mX12_longest 32 35 L S h := kx_ne X12_longest_29
theorem X12_longest_54b {d : Nat} {L : kL} {S : List Value} {h : kH} {x y : Int32} : ex d mX12_longest 54 L (.int y :: .int x :: S) h = exLt x y d mX12_longest 57 92 L S h := kx_ge X12_longest_54
theorem X12_longest_69b {d : Nat} {L : kL} {S : List Value} {h : kH} {x y : Int32} : ex d mX12_longest 69 L (.int y :: .int x :: S) h = exLt y x d mX12_longest 72 75 L S h := kx_ge X12_longest_69
theorem X12_longest_99b {d : Nat} {L : kL} {S : List Value} {h : kH} {x y : Int32} : ex d mX12_longest 99 L (.int y :: .int x :: S) h = exEq x y d mX12_longest 102 106 L S h := kx_ne X12_longest_99
theorem X12_folds_5b {d : Nat} {L : kL} {S : List Value} {h : kH} {x y : Int32} : ex d mX12_folds 5 L (.int y :: .int x :: S) h = exLt x y d mX12_folds 8 21 L S h := kx_ge X12_folds_5
theorem X12_folds_41b {d : Nat} {L : kL} {S : List Value} {h : kH} {x y : Int32} : ex d mX12_folds 41 L (.int y :: .int x :: S) h = exLt x y d mX12_folds 44 127 L S h := kx_ge X12_folds_41
theorem X12_folds_51b {d : Nat} {L : kL} {S : List Value} {h : kH} {x : Int32} : ex d mX12_folds 51 L (.int x :: S) h = exEq x (nI 0) d mX12_folds 54 57 L S h := kx_ne X12_folds_51
theorem X12_folds_59b {d : Nat} {L : kL} {S : List Value} {h : kH} {x y : Int32} : ex d mX12_folds 59 L (.int y :: .int x :: S) h = exEq x y d mX12_folds 62 65 L S h := kx_ne X12_folds_59
theorem X12_depth_18b {d : Nat} {L : kL} {S : List Value} {h : kH} {x y : Int32} : ex d mX12_depth 18 L (.int y :: .int x :: S) h = exLt x y d mX12_depth 21 61 L S h := kx_ge X12_depth_18
theorem X12_depth_62b {d : Nat} {L : kL} {S : List Value} {h : kH} {x : Int32} : ex d mX12_depth 62 L (.int x :: S) h = exEq x (nI 0) d mX12_depth 65 69 L S h := kx_ne X12_depth_62
theorem X12_folded_4b {d : Nat} {L : kL} {S : List Value} {h : kH} {x : Int32} : ex d mX12_folded 4 L (.int x :: S) h = exEq x (nI 0) d mX12_folded 26 7 L S h := X12_folded_4
theorem X12_folded_11b {d : Nat} {L : kL} {S : List Value} {h : kH} {x : Int32} : ex d mX12_folded 11 L (.int x :: S) h = exEq x (nI 0) d mX12_folded 26 14 L S h := X12_folded_11
theorem X12_folded_23b {d : Nat} {L : kL} {S : List Value} {h : kH} {x : Int32} : ex d mX12_folded 23 L (.int x :: S) h = exEq x (nI 0) d mX12_folded 26 28 L S h := kx_ne X12_folded_23
theorem X12_folded_38b {d : Nat} {L : kL} {S : List Value} {h : kH} {x y : Int32} : ex d mX12_folded 38 L (.int y :: .int x :: S) h = exEq x y d mX12_folded 41 44 L S h := kx_ne X12_folded_38
theorem X12_folded_60b {d : Nat} {L : kL} {S : List Value} {h : kH} {x y : Int32} : ex d mX12_folded 60 L (.int y :: .int x :: S) h = exEq x y d mX12_folded 63 70 L S h := kx_ne X12_folded_60
theorem X12_ranks_4b {d : Nat} {L : kL} {S : List Value} {h : kH} {x y : Int32} : ex d mX12_ranks 4 L (.int y :: .int x :: S) h = exLt x y d mX12_ranks 7 64 L S h := kx_ge X12_ranks_4
theorem X12_ranks_13b {d : Nat} {L : kL} {S : List Value} {h : kH} {x y : Int32} : ex d mX12_ranks 13 L (.int y :: .int x :: S) h = exEq x y d mX12_ranks 20 16 L S h := X12_ranks_13
theorem X12_ranks_28b {d : Nat} {L : kL} {S : List Value} {h : kH} {x : Int32} : ex d mX12_ranks 28 L (.int x :: S) h = exEq x (nI 0) d mX12_ranks 38 31 L S h := X12_ranks_28
theorem X12_ranks_46b {d : Nat} {L : kL} {S : List Value} {h : kH} {x : Int32} : ex d mX12_ranks 46 L (.int x :: S) h = exEq x (nI 0) d mX12_ranks 56 49 L S h := X12_ranks_46
theorem X12_isAhead_12b {d : Nat} {L : kL} {S : List Value} {h : kH} {x y : Int32} : ex d mX12_isAhead 12 L (.int y :: .int x :: S) h = exEq x y d mX12_isAhead 36 15 L S h := X12_isAhead_12
theorem X12_isAhead_27b {d : Nat} {L : kL} {S : List Value} {h : kH} {x y : Int32} : ex d mX12_isAhead 27 L (.int y :: .int x :: S) h = exLt y x d mX12_isAhead 30 34 L S h := kx_ge X12_isAhead_27
theorem X12_isAhead_48b {d : Nat} {L : kL} {S : List Value} {h : kH} {x y : Int32} : ex d mX12_isAhead 48 L (.int y :: .int x :: S) h = exEq x y d mX12_isAhead 74 51 L S h := X12_isAhead_48
theorem X12_isAhead_63b {d : Nat} {L : kL} {S : List Value} {h : kH} {x y : Int32} : ex d mX12_isAhead 63 L (.int y :: .int x :: S) h = exLt y x d mX12_isAhead 66 70 L S h := kx_ge X12_isAhead_63
theorem X12_isAhead_76b {d : Nat} {L : kL} {S : List Value} {h : kH} {x y : Int32} : ex d mX12_isAhead 76 L (.int y :: .int x :: S) h = exLt x y d mX12_isAhead 79 83 L S h := kx_ge X12_isAhead_76
theorem X12_rankedAt_4b {d : Nat} {L : kL} {S : List Value} {h : kH} {x y : Int32} : ex d mX12_rankedAt 4 L (.int y :: .int x :: S) h = exLt x y d mX12_rankedAt 7 51 L S h := kx_ge X12_rankedAt_4
theorem X12_rankedAt_15b {d : Nat} {L : kL} {S : List Value} {h : kH} {x y : Int32} : ex d mX12_rankedAt 15 L (.int y :: .int x :: S) h = exLt x y d mX12_rankedAt 18 38 L S h := kx_ge X12_rankedAt_15
theorem X12_rankedAt_25b {d : Nat} {L : kL} {S : List Value} {h : kH} {x : Int32} : ex d mX12_rankedAt 25 L (.int x :: S) h = exEq x (nI 0) d mX12_rankedAt 32 28 L S h := X12_rankedAt_25
theorem X12_rankedAt_40b {d : Nat} {L : kL} {S : List Value} {h : kH} {x y : Int32} : ex d mX12_rankedAt 40 L (.int y :: .int x :: S) h = exEq x y d mX12_rankedAt 43 45 L S h := kx_ne X12_rankedAt_40
theorem X12_ranked_9b {d : Nat} {L : kL} {S : List Value} {h : kH} {x : Int32} : ex d mX12_ranked 9 L (.int x :: S) h = exEq x (nI 0) d mX12_ranked 12 14 L S h := kx_ne X12_ranked_9
theorem X12_nextFault_6b {d : Nat} {L : kL} {S : List Value} {h : kH} {x y : Int32} : ex d mX12_nextFault 6 L (.int y :: .int x :: S) h = exLt x y d mX12_nextFault 9 40 L S h := kx_ge X12_nextFault_6
theorem X12_nextFault_15b {d : Nat} {L : kL} {S : List Value} {h : kH} {x : Int32} : ex d mX12_nextFault 15 L (.int x :: S) h = exEq x (nI 0) d mX12_nextFault 18 34 L S h := kx_ne X12_nextFault_15
theorem X12_nextFault_20b {d : Nat} {L : kL} {S : List Value} {h : kH} {x y : Int32} : ex d mX12_nextFault 20 L (.int y :: .int x :: S) h = exEq x y d mX12_nextFault 32 23 L S h := X12_nextFault_20
theorem X12_nextFault_29b {d : Nat} {L : kL} {S : List Value} {h : kH} {x : Int32} : ex d mX12_nextFault 29 L (.int x :: S) h = exEq x (nI 0) d mX12_nextFault 34 32 L S h := X12_nextFault_29
theorem X12_nextFault_42b {d : Nat} {L : kL} {S : List Value} {h : kH} {x y : Int32} : ex d mX12_nextFault 42 L (.int y :: .int x :: S) h = exEq x y d mX12_nextFault 79 45 L S h := X12_nextFault_42
theorem X12_nextFault_57b {d : Nat} {L : kL} {S : List Value} {h : kH} {x y : Int32} : ex d mX12_nextFault 57 L (.int y :: .int x :: S) h = exLt x y d mX12_nextFault 79 60 L S h := X12_nextFault_57
theorem X12_nextFault_72b {d : Nat} {L : kL} {S : List Value} {h : kH} {x y : Int32} : ex d mX12_nextFault 72 L (.int y :: .int x :: S) h = exLt x y d mX12_nextFault 79 75 L S h := X12_nextFault_72
theorem X12_peels_13b {d : Nat} {L : kL} {S : List Value} {h : kH} {x y : Int32} : ex d mX12_peels 13 L (.int y :: .int x :: S) h = exLt x y d mX12_peels 16 29 L S h := kx_ge X12_peels_13
theorem X12_peels_40b {d : Nat} {L : kL} {S : List Value} {h : kH} {x y : Int32} : ex d mX12_peels 40 L (.int y :: .int x :: S) h = exEq x y d mX12_peels 205 43 L S h := X12_peels_40
theorem X12_peels_153b {d : Nat} {L : kL} {S : List Value} {h : kH} {x y : Int32} : ex d mX12_peels 153 L (.int y :: .int x :: S) h = exLt x y d mX12_peels 156 185 L S h := kx_ge X12_peels_153
theorem X12_peels_170b {d : Nat} {L : kL} {S : List Value} {h : kH} {x y : Int32} : ex d mX12_peels 170 L (.int y :: .int x :: S) h = exEq x y d mX12_peels 173 177 L S h := kx_ne X12_peels_170
theorem X12_faults_7b {d : Nat} {L : kL} {S : List Value} {h : kH} {x : Int32} : ex d mX12_faults 7 L (.int x :: S) h = exEq x (nI 0) d mX12_faults 10 12 L S h := kx_ne X12_faults_7
theorem X12_faults_17b {d : Nat} {L : kL} {S : List Value} {h : kH} {x : Int32} : ex d mX12_faults 17 L (.int x :: S) h = exEq x (nI 0) d mX12_faults 20 27 L S h := kx_ne X12_faults_17
theorem X12_fault_1b {d : Nat} {L : kL} {S : List Value} {h : kH} {x : Int32} : ex d mX12_fault 1 L (.int x :: S) h = exLt x (nI 0) d mX12_fault 16 4 L S h := X12_fault_1
theorem X12_fault_13b {d : Nat} {L : kL} {S : List Value} {h : kH} {x : Int32} : ex d mX12_fault 13 L (.int x :: S) h = exEq x (nI 0) d mX12_fault 16 18 L S h := kx_ne X12_fault_13
theorem X12_fault_27b {d : Nat} {L : kL} {S : List Value} {h : kH} {x y : Int32} : ex d mX12_fault 27 L (.int y :: .int x :: S) h = exLt x y d mX12_fault 30 44 L S h := kx_ge X12_fault_27
theorem X12_saysNumber_7b {d : Nat} {L : kL} {S : List Value} {h : kH} {x y : Int32} : ex d mX12_saysNumber 7 L (.int y :: .int x :: S) h = exLt y x d mX12_saysNumber 10 18 L S h := kx_ge X12_saysNumber_7
theorem X12_saysNumber_19b {d : Nat} {L : kL} {S : List Value} {h : kH} {x : Int32} : ex d mX12_saysNumber 19 L (.int x :: S) h = exLt (nI 0) x d mX12_saysNumber 22 43 L S h := kx_ge X12_saysNumber_19
theorem X12_laysReport_9b {d : Nat} {L : kL} {S : List Value} {h : kH} {x y : Int32} : ex d mX12_laysReport 9 L (.int y :: .int x :: S) h = exLt x y d mX12_laysReport 12 61 L S h := kx_ge X12_laysReport_9
theorem X12_laysReport_30b {d : Nat} {L : kL} {S : List Value} {h : kH} {x : Int32} : ex d mX12_laysReport 30 L (.int x :: S) h = exEq x (nI 0) d mX12_laysReport 55 33 L S h := X12_laysReport_30
theorem X12_report_1b {d : Nat} {L : kL} {S : List Value} {h : kH} {x : Int32} : ex d mX12_report 1 L (.int x :: S) h = exLt x (nI 0) d mX12_report 9 4 L S h := X12_report_1
theorem X12_report_6b {d : Nat} {L : kL} {S : List Value} {h : kH} {x y : Int32} : ex d mX12_report 6 L (.int y :: .int x :: S) h = exLt x y d mX12_report 9 11 L S h := kx_ge X12_report_6
theorem X12_report_20b {d : Nat} {L : kL} {S : List Value} {h : kH} {x y : Int32} : ex d mX12_report 20 L (.int y :: .int x :: S) h = exLt x y d mX12_report 26 23 L S h := X12_report_20
theorem X12_report_33b {d : Nat} {L : kL} {S : List Value} {h : kH} {x y : Int32} : ex d mX12_report 33 L (.int y :: .int x :: S) h = exEq x y d mX12_report 36 43 L S h := kx_ne X12_report_33
theorem X12_report_48b {d : Nat} {L : kL} {S : List Value} {h : kH} {x y : Int32} : ex d mX12_report 48 L (.int y :: .int x :: S) h = exLt x y d mX12_report 51 60 L S h := kx_ge X12_report_48
theorem X12_apartFrom_28b {d : Nat} {L : kL} {S : List Value} {h : kH} {x y : Int32} : ex d mX12_apartFrom 28 L (.int y :: .int x :: S) h = exLt y x d mX12_apartFrom 91 31 L S h := X12_apartFrom_28
theorem X12_apartFrom_47b {d : Nat} {L : kL} {S : List Value} {h : kH} {x : Int32} : ex d mX12_apartFrom 47 L (.int x :: S) h = exLt x (nI 0) d mX12_apartFrom 50 55 L S h := kx_ge X12_apartFrom_47
theorem X12_apartFrom_79b {d : Nat} {L : kL} {S : List Value} {h : kH} {x : Int32} : ex d mX12_apartFrom 79 L (.int x :: S) h = exLt (nI 0) x d mX12_apartFrom 82 85 L S h := kx_ge X12_apartFrom_79
theorem X12_apart_4b {d : Nat} {L : kL} {S : List Value} {h : kH} {x : Int32} : ex d mX12_apart 4 L (.int x :: S) h = exEq x (nI 0) d mX12_apart 19 7 L S h := X12_apart_4
theorem X12_apart_11b {d : Nat} {L : kL} {S : List Value} {h : kH} {x : Int32} : ex d mX12_apart 11 L (.int x :: S) h = exEq x (nI 0) d mX12_apart 19 14 L S h := X12_apart_11
theorem X12_apart_16b {d : Nat} {L : kL} {S : List Value} {h : kH} {x y : Int32} : ex d mX12_apart 16 L (.int y :: .int x :: S) h = exEq x y d mX12_apart 19 21 L S h := kx_ne X12_apart_16
theorem X12_apart_72b {d : Nat} {L : kL} {S : List Value} {h : kH} {x : Int32} : ex d mX12_apart 72 L (.int x :: S) h = exLt (nI 0) x d mX12_apart 75 79 L S h := kx_ge X12_apart_72
theorem X12_apart_84b {d : Nat} {L : kL} {S : List Value} {h : kH} {x : Int32} : ex d mX12_apart 84 L (.int x :: S) h = exEq x (nI 0) d mX12_apart 93 87 L S h := X12_apart_84
theorem X12_apart_96b {d : Nat} {L : kL} {S : List Value} {h : kH} {x : Int32} : ex d mX12_apart 96 L (.int x :: S) h = exEq x (nI 0) d mX12_apart 106 99 L S h := X12_apart_96
theorem X12_apart_114b {d : Nat} {L : kL} {S : List Value} {h : kH} {x : Int32} : ex d mX12_apart 114 L (.int x :: S) h = exEq x (nI 0) d mX12_apart 124 117 L S h := X12_apart_114
theorem X12_apart_132b {d : Nat} {L : kL} {S : List Value} {h : kH} {x : Int32} : ex d mX12_apart 132 L (.int x :: S) h = exEq x (nI 0) d mX12_apart 139 135 L S h := X12_apart_132
theorem X12_pairsBy_11b {d : Nat} {L : kL} {S : List Value} {h : kH} {x y : Int32} : ex d mX12_pairsBy 11 L (.int y :: .int x :: S) h = exLt x y d mX12_pairsBy 14 75 L S h := kx_ge X12_pairsBy_11
theorem X12_pairsBy_26b {d : Nat} {L : kL} {S : List Value} {h : kH} {x y : Int32} : ex d mX12_pairsBy 26 L (.int y :: .int x :: S) h = exLt x y d mX12_pairsBy 29 69 L S h := kx_ge X12_pairsBy_26
theorem X12_pairsBy_56b {d : Nat} {L : kL} {S : List Value} {h : kH} {x : Int32} : ex d mX12_pairsBy 56 L (.int x :: S) h = exEq x (nI 0) d mX12_pairsBy 63 59 L S h := X12_pairsBy_56
theorem X12_lag_4b {d : Nat} {L : kL} {S : List Value} {h : kH} {x : Int32} : ex d mX12_lag 4 L (.int x :: S) h = exEq x (nI 0) d mX12_lag 19 7 L S h := X12_lag_4
theorem X12_lag_16b {d : Nat} {L : kL} {S : List Value} {h : kH} {x : Int32} : ex d mX12_lag 16 L (.int x :: S) h = exEq x (nI 0) d mX12_lag 19 21 L S h := kx_ne X12_lag_16
theorem X12_lags_4b {d : Nat} {L : kL} {S : List Value} {h : kH} {x : Int32} : ex d mX12_lags 4 L (.int x :: S) h = exEq x (nI 0) d mX12_lags 51 7 L S h := X12_lags_4
theorem X12_lags_11b {d : Nat} {L : kL} {S : List Value} {h : kH} {x : Int32} : ex d mX12_lags 11 L (.int x :: S) h = exEq x (nI 0) d mX12_lags 51 14 L S h := X12_lags_11
theorem X12_lags_16b {d : Nat} {L : kL} {S : List Value} {h : kH} {x y : Int32} : ex d mX12_lags 16 L (.int y :: .int x :: S) h = exLt y x d mX12_lags 51 19 L S h := X12_lags_16
theorem X12_lags_25b {d : Nat} {L : kL} {S : List Value} {h : kH} {x y : Int32} : ex d mX12_lags 25 L (.int y :: .int x :: S) h = exLt x y d mX12_lags 28 51 L S h := kx_ge X12_lags_25
theorem X12_lags_37b {d : Nat} {L : kL} {S : List Value} {h : kH} {x : Int32} : ex d mX12_lags 37 L (.int x :: S) h = exEq x (nI 0) d mX12_lags 51 40 L S h := X12_lags_37
theorem X12_lags_48b {d : Nat} {L : kL} {S : List Value} {h : kH} {x : Int32} : ex d mX12_lags 48 L (.int x :: S) h = exEq x (nI 0) d mX12_lags 51 53 L S h := kx_ne X12_lags_48
theorem X12_lags_69b {d : Nat} {L : kL} {S : List Value} {h : kH} {x y : Int32} : ex d mX12_lags 69 L (.int y :: .int x :: S) h = exLt y x d mX12_lags 107 72 L S h := X12_lags_69
theorem X12_lags_85b {d : Nat} {L : kL} {S : List Value} {h : kH} {x y : Int32} : ex d mX12_lags 85 L (.int y :: .int x :: S) h = exLt y x d mX12_lags 88 92 L S h := kx_ge X12_lags_85
theorem X12_lags_109b {d : Nat} {L : kL} {S : List Value} {h : kH} {x : Int32} : ex d mX12_lags 109 L (.int x :: S) h = exEq x (nI 0) d mX12_lags 112 117 L S h := kx_ne X12_lags_109
theorem X12_nearest_4b {d : Nat} {L : kL} {S : List Value} {h : kH} {x : Int32} : ex d mX12_nearest 4 L (.int x :: S) h = exEq x (nI 0) d mX12_nearest 19 7 L S h := X12_nearest_4
theorem X12_nearest_16b {d : Nat} {L : kL} {S : List Value} {h : kH} {x : Int32} : ex d mX12_nearest 16 L (.int x :: S) h = exEq x (nI 0) d mX12_nearest 19 21 L S h := kx_ne X12_nearest_16
theorem X12_nearest_38b {d : Nat} {L : kL} {S : List Value} {h : kH} {x y : Int32} : ex d mX12_nearest 38 L (.int y :: .int x :: S) h = exLt x y d mX12_nearest 41 139 L S h := kx_ge X12_nearest_38
theorem X12_nearest_53b {d : Nat} {L : kL} {S : List Value} {h : kH} {x y : Int32} : ex d mX12_nearest 53 L (.int y :: .int x :: S) h = exLt x y d mX12_nearest 56 133 L S h := kx_ge X12_nearest_53
theorem X12_nearest_88b {d : Nat} {L : kL} {S : List Value} {h : kH} {x y : Int32} : ex d mX12_nearest 88 L (.int y :: .int x :: S) h = exEq x y d mX12_nearest 110 91 L S h := X12_nearest_88
theorem X12_nearest_104b {d : Nat} {L : kL} {S : List Value} {h : kH} {x : Int32} : ex d mX12_nearest 104 L (.int x :: S) h = exLt x (nI 0) d mX12_nearest 110 107 L S h := X12_nearest_104
theorem X12_nearest_140b {d : Nat} {L : kL} {S : List Value} {h : kH} {x : Int32} : ex d mX12_nearest 140 L (.int x :: S) h = exEq x (nI 0) d mX12_nearest 143 147 L S h := kx_ne X12_nearest_140
theorem X12_nearest_149b {d : Nat} {L : kL} {S : List Value} {h : kH} {x y : Int32} : ex d mX12_nearest 149 L (.int y :: .int x :: S) h = exEq x y d mX12_nearest 152 157 L S h := kx_ne X12_nearest_149
theorem X12_note_9b {d : Nat} {L : kL} {S : List Value} {h : kH} {x : Int32} : ex d mX12_note 9 L (.int x :: S) h = exEq x (nI 0) d mX12_note 12 14 L S h := kx_ne X12_note_9
theorem X12_note_25b {d : Nat} {L : kL} {S : List Value} {h : kH} {x y : Int32} : ex d mX12_note 25 L (.int y :: .int x :: S) h = exEq x y d mX12_note 28 31 L S h := kx_ne X12_note_25
theorem X12_note_32b {d : Nat} {L : kL} {S : List Value} {h : kH} {x : Int32} : ex d mX12_note 32 L (.int x :: S) h = exLt (nI 0) x d mX12_note 35 50 L S h := kx_ge X12_note_32
theorem X12_note_44b {d : Nat} {L : kL} {S : List Value} {h : kH} {x y : Int32} : ex d mX12_note 44 L (.int y :: .int x :: S) h = exLt y x d mX12_note 50 47 L S h := X12_note_44
theorem X12_note_79b {d : Nat} {L : kL} {S : List Value} {h : kH} {x y : Int32} : ex d mX12_note 79 L (.int y :: .int x :: S) h = exLt x y d mX12_note 82 154 L S h := kx_ge X12_note_79
theorem X12_note_89b {d : Nat} {L : kL} {S : List Value} {h : kH} {x y : Int32} : ex d mX12_note 89 L (.int y :: .int x :: S) h = exEq x y d mX12_note 96 92 L S h := X12_note_89
theorem X12_note_111b {d : Nat} {L : kL} {S : List Value} {h : kH} {x : Int32} : ex d mX12_note 111 L (.int x :: S) h = exEq x (nI 0) d mX12_note 121 114 L S h := X12_note_111
theorem X12_note_136b {d : Nat} {L : kL} {S : List Value} {h : kH} {x : Int32} : ex d mX12_note 136 L (.int x :: S) h = exEq x (nI 0) d mX12_note 146 139 L S h := X12_note_136
theorem X12_noteIs_16b {d : Nat} {L : kL} {S : List Value} {h : kH} {x : Int32} : ex d mX12_noteIs 16 L (.int x :: S) h = exEq x (nI 0) d mX12_noteIs 40 19 L S h := X12_noteIs_16
theorem X12_noteIs_28b {d : Nat} {L : kL} {S : List Value} {h : kH} {x : Int32} : ex d mX12_noteIs 28 L (.int x :: S) h = exEq x (nI 0) d mX12_noteIs 40 31 L S h := X12_noteIs_28
theorem X12_findsLine_38b {d : Nat} {L : kL} {S : List Value} {h : kH} {x : Int32} : ex d mX12_findsLine 38 L (.int x :: S) h = exLt x (nI 0) d mX12_findsLine 41 110 L S h := kx_ge X12_findsLine_38
theorem X12_line_4b {d : Nat} {L : kL} {S : List Value} {h : kH} {x : Int32} : ex d mX12_line 4 L (.int x :: S) h = exEq x (nI 0) d mX12_line 30 7 L S h := X12_line_4
theorem X12_line_16b {d : Nat} {L : kL} {S : List Value} {h : kH} {x : Int32} : ex d mX12_line 16 L (.int x :: S) h = exEq x (nI 0) d mX12_line 30 19 L S h := X12_line_16
theorem X12_line_27b {d : Nat} {L : kL} {S : List Value} {h : kH} {x y : Int32} : ex d mX12_line 27 L (.int y :: .int x :: S) h = exLt x y d mX12_line 30 34 L S h := kx_ge X12_line_27
theorem X12_line_41b {d : Nat} {L : kL} {S : List Value} {h : kH} {x y : Int32} : ex d mX12_line 41 L (.int y :: .int x :: S) h = exLt x y d mX12_line 44 60 L S h := kx_ge X12_line_41
theorem X12_line_45b {d : Nat} {L : kL} {S : List Value} {h : kH} {x : Int32} : ex d mX12_line 45 L (.int x :: S) h = exEq x (nI 0) d mX12_line 48 55 L S h := kx_ne X12_line_45
theorem X12_due_4b {d : Nat} {L : kL} {S : List Value} {h : kH} {x : Int32} : ex d mX12_due 4 L (.int x :: S) h = exEq x (nI 0) d mX12_due 19 7 L S h := X12_due_4
theorem X12_due_16b {d : Nat} {L : kL} {S : List Value} {h : kH} {x : Int32} : ex d mX12_due 16 L (.int x :: S) h = exEq x (nI 0) d mX12_due 19 21 L S h := kx_ne X12_due_16
theorem X12_due_29b {d : Nat} {L : kL} {S : List Value} {h : kH} {x y : Int32} : ex d mX12_due 29 L (.int y :: .int x :: S) h = exLt x y d mX12_due 32 35 L S h := kx_ge X12_due_29
theorem X12_due_58b {d : Nat} {L : kL} {S : List Value} {h : kH} {x y : Int32} : ex d mX12_due 58 L (.int y :: .int x :: S) h = exLt y x d mX12_due 91 61 L S h := X12_due_58
theorem X12_due_80b {d : Nat} {L : kL} {S : List Value} {h : kH} {x : Int32} : ex d mX12_due 80 L (.int x :: S) h = exLt x (nI 0) d mX12_due 85 83 L S h := X12_due_80
theorem X12_tried_6b {d : Nat} {L : kL} {S : List Value} {h : kH} {x : Int32} : ex d mX12_tried 6 L (.int x :: S) h = exEq x (nI 0) d mX12_tried 35 9 L S h := X12_tried_6
theorem X12_tried_11b {d : Nat} {L : kL} {S : List Value} {h : kH} {x : Int32} : ex d mX12_tried 11 L (.int x :: S) h = exEq x (nI 0) d mX12_tried 22 14 L S h := X12_tried_11
theorem X12_tried_19b {d : Nat} {L : kL} {S : List Value} {h : kH} {x : Int32} : ex d mX12_tried 19 L (.int x :: S) h = exEq x (nI 0) d mX12_tried 35 22 L S h := X12_tried_19
theorem X12_tried_32b {d : Nat} {L : kL} {S : List Value} {h : kH} {x : Int32} : ex d mX12_tried 32 L (.int x :: S) h = exEq x (nI 0) d mX12_tried 35 37 L S h := kx_ne X12_tried_32
theorem X12_tried_50b {d : Nat} {L : kL} {S : List Value} {h : kH} {x : Int32} : ex d mX12_tried 50 L (.int x :: S) h = exLt (nI 0) x d mX12_tried 53 62 L S h := kx_ge X12_tried_50
theorem X12_tried_93b {d : Nat} {L : kL} {S : List Value} {h : kH} {x : Int32} : ex d mX12_tried 93 L (.int x :: S) h = exEq x (nI 0) d mX12_tried 96 101 L S h := kx_ne X12_tried_93
theorem X12_tried_104b {d : Nat} {L : kL} {S : List Value} {h : kH} {x y : Int32} : ex d mX12_tried 104 L (.int y :: .int x :: S) h = exEq x y d mX12_tried 107 117 L S h := kx_ne X12_tried_104
theorem X12_bestTurn_4b {d : Nat} {L : kL} {S : List Value} {h : kH} {x : Int32} : ex d mX12_bestTurn 4 L (.int x :: S) h = exEq x (nI 0) d mX12_bestTurn 46 7 L S h := X12_bestTurn_4
theorem X12_bestTurn_11b {d : Nat} {L : kL} {S : List Value} {h : kH} {x : Int32} : ex d mX12_bestTurn 11 L (.int x :: S) h = exEq x (nI 0) d mX12_bestTurn 46 14 L S h := X12_bestTurn_11
theorem X12_bestTurn_18b {d : Nat} {L : kL} {S : List Value} {h : kH} {x : Int32} : ex d mX12_bestTurn 18 L (.int x :: S) h = exEq x (nI 0) d mX12_bestTurn 46 21 L S h := X12_bestTurn_18
theorem X12_bestTurn_23b {d : Nat} {L : kL} {S : List Value} {h : kH} {x y : Int32} : ex d mX12_bestTurn 23 L (.int y :: .int x :: S) h = exLt y x d mX12_bestTurn 46 26 L S h := X12_bestTurn_23
theorem X12_bestTurn_32b {d : Nat} {L : kL} {S : List Value} {h : kH} {x y : Int32} : ex d mX12_bestTurn 32 L (.int y :: .int x :: S) h = exLt x y d mX12_bestTurn 35 46 L S h := kx_ge X12_bestTurn_32
theorem X12_bestTurn_43b {d : Nat} {L : kL} {S : List Value} {h : kH} {x : Int32} : ex d mX12_bestTurn 43 L (.int x :: S) h = exEq x (nI 0) d mX12_bestTurn 46 48 L S h := kx_ne X12_bestTurn_43
theorem X12_bestTurn_69b {d : Nat} {L : kL} {S : List Value} {h : kH} {x y : Int32} : ex d mX12_bestTurn 69 L (.int y :: .int x :: S) h = exLt y x d mX12_bestTurn 146 72 L S h := X12_bestTurn_69
theorem X12_bestTurn_91b {d : Nat} {L : kL} {S : List Value} {h : kH} {x y : Int32} : ex d mX12_bestTurn 91 L (.int y :: .int x :: S) h = exEq x y d mX12_bestTurn 140 94 L S h := X12_bestTurn_91
theorem X12_bestTurn_100b {d : Nat} {L : kL} {S : List Value} {h : kH} {x y : Int32} : ex d mX12_bestTurn 100 L (.int y :: .int x :: S) h = exLt x y d mX12_bestTurn 140 103 L S h := X12_bestTurn_100
theorem X12_bestTurn_109b {d : Nat} {L : kL} {S : List Value} {h : kH} {x y : Int32} : ex d mX12_bestTurn 109 L (.int y :: .int x :: S) h = exEq x y d mX12_bestTurn 112 124 L S h := kx_ne X12_bestTurn_109
theorem X12_bestTurn_118b {d : Nat} {L : kL} {S : List Value} {h : kH} {x y : Int32} : ex d mX12_bestTurn 118 L (.int y :: .int x :: S) h = exLt y x d mX12_bestTurn 124 121 L S h := X12_bestTurn_118
theorem X12_bestTurn_152b {d : Nat} {L : kL} {S : List Value} {h : kH} {x : Int32} : ex d mX12_bestTurn 152 L (.int x :: S) h = exEq x (nI 0) d mX12_bestTurn 155 160 L S h := kx_ne X12_bestTurn_152
theorem X12_check_9b {d : Nat} {L : kL} {S : List Value} {h : kH} {x : Int32} : ex d mX12_check 9 L (.int x :: S) h = exEq x (nI 0) d mX12_check 20 12 L S h := X12_check_9
theorem X12_check_17b {d : Nat} {L : kL} {S : List Value} {h : kH} {x y : Int32} : ex d mX12_check 17 L (.int y :: .int x :: S) h = exLt y x d mX12_check 20 23 L S h := kx_ge X12_check_17
theorem X12_check_34b {d : Nat} {L : kL} {S : List Value} {h : kH} {x : Int32} : ex d mX12_check 34 L (.int x :: S) h = exLt x (nI 0) d mX12_check 80 37 L S h := X12_check_34
theorem X12_check_53b {d : Nat} {L : kL} {S : List Value} {h : kH} {x y : Int32} : ex d mX12_check 53 L (.int y :: .int x :: S) h = exEq x y d mX12_check 56 62 L S h := kx_ne X12_check_53
theorem X12_check_69b {d : Nat} {L : kL} {S : List Value} {h : kH} {x y : Int32} : ex d mX12_check 69 L (.int y :: .int x :: S) h = exEq x y d mX12_check 74 72 L S h := X12_check_69
theorem J9_abs_067f4_3b {d : Nat} {L : kL} {S : List Value} {h : kH} {x : Int32} : ex d mJ9_abs_067f4 3 L (.int x :: S) h = exLt x (nI 0) d mJ9_abs_067f4 6 11 L S h := kx_ge J9_abs_067f4_3
theorem J9_min_7cf53_2b {d : Nat} {L : kL} {S : List Value} {h : kH} {x y : Int32} : ex d mJ9_min_7cf53 2 L (.int y :: .int x :: S) h = exLt y x d mJ9_min_7cf53 9 5 L S h := J9_min_7cf53_2
theorem J9_max_f86c9_3b {d : Nat} {L : kL} {S : List Value} {h : kH} {x : Int32} : ex d mJ9_max_f86c9 3 L (.int x :: S) h = exLt x (nI 0) d mJ9_max_f86c9 10 6 L S h := J9_max_f86c9_3
theorem J9_min_f86c9_3b {d : Nat} {L : kL} {S : List Value} {h : kH} {x : Int32} : ex d mJ9_min_f86c9 3 L (.int x :: S) h = exLt (nI 0) x d mJ9_min_f86c9 10 6 L S h := J9_min_f86c9_3
theorem J9_max_7cf53_2b {d : Nat} {L : kL} {S : List Value} {h : kH} {x y : Int32} : ex d mJ9_max_7cf53 2 L (.int y :: .int x :: S) h = exLt x y d mJ9_max_7cf53 9 5 L S h := J9_max_7cf53_2
theorem J9_floorDiv_f86c9_10b {d : Nat} {L : kL} {S : List Value} {h : kH} {x : Int32} : ex d mJ9_floorDiv_f86c9 10 L (.int x :: S) h = exLt x (nI 0) d mJ9_floorDiv_f86c9 13 27 L S h := kx_ge J9_floorDiv_f86c9_10
theorem J9_floorDiv_f86c9_19b {d : Nat} {L : kL} {S : List Value} {h : kH} {x : Int32} : ex d mJ9_floorDiv_f86c9 19 L (.int x :: S) h = exEq x (nI 0) d mJ9_floorDiv_f86c9 27 22 L S h := J9_floorDiv_f86c9_19
theorem J7_fill_53178_7b {d : Nat} {L : kL} {S : List Value} {h : kH} {x y : Int32} : ex d mJ7_fill_53178 7 L (.int y :: .int x :: S) h = exLt x y d mJ7_fill_53178 10 20 L S h := kx_ge J7_fill_53178_7
