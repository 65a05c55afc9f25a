/-! OWN: the law: what holds between calls of both -/
/-- the script, the limits: there before -/
def hScr (h : kH) (L : Nat) (xs : Nat → Int32) : Prop := h.1 0 = some (.inl (.int, L, .inl xs)) ∧ hOpt h
section LWA
variable {d : Nat} {h : kH} {i : tI} {l : tL} {I : tI} {J : tL} {nw df : Nat} {P : Nat → Nat}
variable {F : Nat → Nat} {PS : List (Nat → Nat)} {T : Nat → Nat} {tc L : Nat} {xs : Nat → Int32} {i' : tI} {l' : tL} {I' : tI} {J' : tL}
theorem kil_scr {a : Nat} (hs : hScr h L xs) (hL : L ≤ 3072) (ha : a < L) : kil (mH h i l I J nw df P) 0 (nI a) = some (xs a) := by
  have e : (mH h i l I J nw df P).1 0 = some (.inl (.int, L, .inl xs)) := by rw [← hs.1]; rfl
  simp only [kil, e]
  rw [if_pos (nI_kin ha (by omega)), nI_clamp (by omega)]
theorem kln_scr (hs : hScr h L xs) : klen (mH h i l I J nw df P) 0 = some (nI L) := by
  have e : (mH h i l I J nw df P).1 0 = some (.inl (.int, L, .inl xs)) := by rw [← hs.1]; rfl
  simp only [klen, e]
  rfl
theorem exEqL_s {x : Int64} {m p q : Nat} {L : kL} {S : List Value} {h : kH} : exEqL x x d m p q L S h = ex d m p L S h := if_pos rfl
theorem RInv.fc (hR : RInv i I F PS T tc) (k : FrC i i' l l' I I' J J') : RInv i' I' F PS T tc := by
  unfold RInv rFile rPast rTape rWords at *
  rw [(k 217 (by decide)).1, (k 218 (by decide)).2.2.1, (k 220 (by decide)).2.2.1, (k 221 (by decide)).2.2.1, (k 241 (by decide)).2.2.1]
  exact hR
theorem RInv.kq (hR : RInv i I F PS T tc) (k : Kq i i' l l' I I' J J') : RInv i' I' F PS T tc := by
  unfold RInv rFile rPast rTape rWords at *
  rw [k.2.1, k.2.2.1, k.2.2.2.2.1 218 (by decide), k.2.2.2.2.1 220 (by decide), k.2.2.2.2.1 221 (by decide), k.2.2.2.2.1 241 (by decide)]
  exact hR
theorem CInv.lo (hC : CInv i I nw df P F PS T tc) (k : ∀ p, p < 217 → i' p = i p ∧ I' p = I p) : CInv i' I' nw df P F PS T tc := by
  obtain ⟨s, ok, st, se, vd, ps, tp⟩ := hC
  have keep : ∀ q G, isS q → cSta i I q G → cSta i' I' q G := fun q G hq hg => by
    have := hq.b
    exact hg.e (fun j hj => ⟨(k (q + j) (by omega)).1, (k (q + j) (by omega)).2⟩)
  refine ⟨s, ok, keep _ _ s.1 st, se.c (by rw [(k 66 (by decide)).1]) (k 67 (by decide)).2 (k 68 (by decide)).2, ⟨fun m hm => ?_, ?_⟩, ?_, ?_⟩
  · have := vd.1 m hm
    unfold cVk at *
    rw [(k 92 (by decide)).2, show 91 + 2 = 93 from rfl, show 91 + 3 = 94 from rfl, show 91 + 4 = 95 from rfl, (k 93 (by decide)).2, (k 94 (by decide)).2, (k 95 (by decide)).2]
    exact this
  · rw [(k 91 (by decide)).1, (k 96 (by decide)).2]
    exact vd.2
  · obtain ⟨pn, h1, h2, h3, h4, h5⟩ := ps
    refine ⟨pn, h1, by rw [(k 32 (by decide)).1]; exact h2, by rw [(k 32 (by decide)).1]; exact h3, h4, fun n hn => ?_⟩
    exact ⟨keep _ _ (s.2.2.2.1 _ (Nat.mod_lt _ (by decide))).1 (h5 n hn).1, (h5 n hn).2⟩
  · refine ⟨by rw [(k 33 (by decide)).1]; exact tp.1, tp.2.1, fun j hj => ?_⟩
    rw [(k 34 (by decide)).2]
    exact tp.2.2 j hj
theorem CInv.kq (hC : CInv i I nw df P F PS T tc) (k : Kq i i' l l' I I' J J') : CInv i' I' nw df P F PS T tc := hC.lo (fun p hp => ⟨funext fun m => k.1 p m (by omega), k.2.2.2.2.1 p (Or.inl hp)⟩)
theorem CInv.fr (hC : CInv i I nw df P F PS T tc) (k : FrR i i' l l' I I' J J') : CInv i' I' nw df P F PS T tc := hC.lo (fun p hp => ⟨funext fun m => k.1 p m (by omega), k.2.2.1 p hp⟩)
end LWA
