/-! OWN: the classes' facts; the law's walk out of one run of the numbered machine -/
theorem kw_in (ws : List Cond) (h : (ws.all fun w => decide (w ∈ lw_tbl) && goodWord w) = true) : ∀ w ∈ ws, w ∈ kWs := by
  intro w hw
  have h1 := List.all_eq_true.mp h w hw
  simp only [Bool.and_eq_true, decide_eq_true_eq] at h1
  exact List.mem_filter.mpr ⟨List.mem_append_left _ h1.1, h1.2⟩
theorem kcl0 : ((wsJ40).all fun w => decide (w ∈ lw_tbl) && goodWord w) = true := by decide +kernel
theorem kcl1 : ((wsX00).all fun w => decide (w ∈ lw_tbl) && goodWord w) = true := by decide +kernel
theorem kcl2 : ((wsX10).all fun w => decide (w ∈ lw_tbl) && goodWord w) = true := by decide +kernel
theorem kcl3 : ((wsX20).all fun w => decide (w ∈ lw_tbl) && goodWord w) = true := by decide +kernel
theorem kcl4 : ((wsX30).all fun w => decide (w ∈ lw_tbl) && goodWord w) = true := by decide +kernel
theorem kcl5 : ((wsX40).all fun w => decide (w ∈ lw_tbl) && goodWord w) = true := by decide +kernel
theorem kcl6 : ((wsX50).all fun w => decide (w ∈ lw_tbl) && goodWord w) = true := by decide +kernel
theorem kcl7 : ((wsX60).all fun w => decide (w ∈ lw_tbl) && goodWord w) = true := by decide +kernel
theorem kcl8 : ((wsX70).all fun w => decide (w ∈ lw_tbl) && goodWord w) = true := by decide +kernel
theorem kcl9 : ((wsX80).all fun w => decide (w ∈ lw_tbl) && goodWord w) = true := by decide +kernel
theorem kcl10 : ((wsX90).all fun w => decide (w ∈ lw_tbl) && goodWord w) = true := by decide +kernel
theorem kcl11 : ((wsX100).all fun w => decide (w ∈ lw_tbl) && goodWord w) = true := by decide +kernel
theorem kcl12 : ((wsX110).all fun w => decide (w ∈ lw_tbl) && goodWord w) = true := by decide +kernel
theorem kcl13 : ((wsX120).all fun w => decide (w ∈ lw_tbl) && goodWord w) = true := by decide +kernel
theorem kCl_ok : kCl := by
  intro ci C T N hq
  match ci, hq with
  | 0, hq => cases hq; exact ⟨kw_in _ kcl0, tyJ4_ok, nmJ4⟩
  | 1, hq => cases hq; exact ⟨kw_in _ kcl1, tyX0_ok, nmX0⟩
  | 2, hq => cases hq; exact ⟨kw_in _ kcl2, tyX1_ok, nmX1⟩
  | 3, hq => cases hq; exact ⟨kw_in _ kcl3, tyX2_ok, nmX2⟩
  | 4, hq => cases hq; exact ⟨kw_in _ kcl4, tyX3_ok, nmX3⟩
  | 5, hq => cases hq; exact ⟨kw_in _ kcl5, tyX4_ok, nmX4⟩
  | 6, hq => cases hq; exact ⟨kw_in _ kcl6, tyX5_ok, nmX5⟩
  | 7, hq => cases hq; exact ⟨kw_in _ kcl7, tyX6_ok, nmX6⟩
  | 8, hq => cases hq; exact ⟨kw_in _ kcl8, tyX7_ok, nmX7⟩
  | 9, hq => cases hq; exact ⟨kw_in _ kcl9, tyX8_ok, nmX8⟩
  | 10, hq => cases hq; exact ⟨kw_in _ kcl10, tyX9_ok, nmX9⟩
  | 11, hq => cases hq; exact ⟨kw_in _ kcl11, tyX10_ok, nmX10⟩
  | 12, hq => cases hq; exact ⟨kw_in _ kcl12, tyX11_ok, nmX11⟩
  | 13, hq => cases hq; exact ⟨kw_in _ kcl13, tyX12_ok, nmX12⟩
  | k + 14, hq => simp [vwCl] at hq
def klow (j : Nat) : Int32 := ([0, 0, 0, 2, 0] : List Int32).getD j 0
def khigh (j : Nat) : Int32 := ([490, 50, 5, 50, 1000] : List Int32).getD j 0
/-- the cells that are there at the law's entry -/
def khc (L : Nat) (xs : Nat → Int32) (q : Nat) : Option kE :=
  if q = 0 then some (.inl (.int, L, .inl xs)) else if q = 1 then some (.inl (.int, 5, .inl klow)) else if q = 2 then some (.inl (.int, 5, .inl khigh)) else
  if q < 9 then some (.inr (14, [.ref (q + 6), .int 0])) else if q < 15 then some (.inl (.byte, ktl.getD (q - 9) 0, .inl (kbt (q - 9)))) else
  if q = 15 then some (.inl (.byte, 100, .inl ktens)) else if q = 16 then some (.inl (.byte, 100, .inl kones)) else none
def kh0 (L : Nat) (xs : Nat → Int32) : kH := (khc L xs, 32, 0)
theorem k_known {s : State} {args : Array Value} (hts : ∀ w ∈ kWs, w.before args s = true) (hin : ∀ q ∈ vwCl, Cond.instantiable q.1 q.2.2 ∈ kWs) : ∃ D : va_G, va_K D vwCl [] s := by
  have h : ∀ k : Nat, ∃ (cC : ClassId) (iS : Nat → Nat), ∀ q : vw_C, vwCl[k]? = some q → u_Kn s q.1 q.2.1 q.2.2 cC iS := by
    intro k
    cases hk : vwCl[k]? with
    | none => exact ⟨0, fun _ => 0, fun q hq => by cases hq⟩
    | some q =>
      obtain ⟨C, T, N⟩ := q
      obtain ⟨cC, iS, hKn⟩ := u_known (C := C) (T := T) (N := N) (n := N) hts (kCl_ok k C T N hk).1 (hts _ (hin (C, T, N) (List.mem_of_getElem? hk)))
      exact ⟨cC, iS, fun q hq => by cases hq; exact hKn⟩
  refine ⟨(fun k => Classical.choose (h k), fun k => Classical.choose (Classical.choose_spec (h k))), fun k q hq => ?_, fun k q hq => by simp at hq⟩
  exact Classical.choose_spec (Classical.choose_spec (h k)) q hq
theorem k_inst : ∀ q ∈ vwCl, Cond.instantiable q.1 q.2.2 ∈ kWs := by
  intro q hq
  refine kw_in (vwCl.map fun q => Cond.instantiable q.1 q.2.2) (by decide +kernel) _ (List.mem_map.mpr ⟨q, hq, rfl⟩)
theorem k_nsin : (kNs.all fun w => decide (w ∈ lw_tbl) && w.onTables) = true := by decide +kernel
