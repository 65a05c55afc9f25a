/-! OWN: the law, from its entry, out of one run of the numbered machine (open: the tables' checks and the run itself are premises here) -/
theorem k_low {args : Array Value} {s : State} (hgv : (Jvm.Cond.and given_1 narrow_1).before args s = true) : ∀ j : Nat, j < 5 → (Term.elem (.static "KnockFinder" "OPTION_LOW" "[I") (.int (Int32.ofNat j))).eval args s none [] s = some (.int (klow j)) := by
  have hs := flat_of_before _ hgv
  intro j hj
  match j, hj with
  | 0, _ => exact va_eqt (hs (.eq (.elem (.static "KnockFinder" "OPTION_LOW" "[I") (.int 0)) (.int 0)) (by decide +kernel))
  | 1, _ => exact va_eqt (hs (.eq (.elem (.static "KnockFinder" "OPTION_LOW" "[I") (.int 1)) (.int 0)) (by decide +kernel))
  | 2, _ => exact va_eqt (hs (.eq (.elem (.static "KnockFinder" "OPTION_LOW" "[I") (.int 2)) (.int 0)) (by decide +kernel))
  | 3, _ => exact va_eqt (hs (.eq (.elem (.static "KnockFinder" "OPTION_LOW" "[I") (.int 3)) (.int 2)) (by decide +kernel))
  | 4, _ => exact va_eqt (hs (.eq (.elem (.static "KnockFinder" "OPTION_LOW" "[I") (.int 4)) (.int 0)) (by decide +kernel))
theorem k_high {args : Array Value} {s : State} (hgv : (Jvm.Cond.and given_1 narrow_1).before args s = true) : ∀ j : Nat, j < 5 → (Term.elem (.static "KnockFinder" "OPTION_HIGH" "[I") (.int (Int32.ofNat j))).eval args s none [] s = some (.int (khigh j)) := by
  have hs := flat_of_before _ hgv
  intro j hj
  match j, hj with
  | 0, _ => exact va_eqt (hs (.eq (.elem (.static "KnockFinder" "OPTION_HIGH" "[I") (.int 0)) (.int 490)) (by decide +kernel))
  | 1, _ => exact va_eqt (hs (.eq (.elem (.static "KnockFinder" "OPTION_HIGH" "[I") (.int 1)) (.int 50)) (by decide +kernel))
  | 2, _ => exact va_eqt (hs (.eq (.elem (.static "KnockFinder" "OPTION_HIGH" "[I") (.int 2)) (.int 5)) (by decide +kernel))
  | 3, _ => exact va_eqt (hs (.eq (.elem (.static "KnockFinder" "OPTION_HIGH" "[I") (.int 3)) (.int 50)) (by decide +kernel))
  | 4, _ => exact va_eqt (hs (.eq (.elem (.static "KnockFinder" "OPTION_HIGH" "[I") (.int 4)) (.int 1000)) (by decide +kernel))
def kIL : kMI := ((⟨"KnockFinderLaw", "law", "([I)Z"⟩ : MethodName), code, 4, (some .boolean), "KnockFinderLaw", 14, 540)
theorem whole_start_open {d : Nat} (hall : ∀ (y : Nat) (M : kT × Nat) (I : kMI), kms[y]? = some M → kmi[y]? = some I → kMOk M I) (hlen : kms.length = kmi.length) (hokL : ∀ q ∈ kt_L_law, kOkI kIL q)
    (hrun : ∀ (L : Nat) (xs : Nat → Int32), L ≤ 3072 → ∃ hF : kH, rn (d + 1) mL_law [.ref 0] (kh0 L xs) = some (some (.int 1), hF) ∧ hF.2.1 ≤ 32 + 600000 ∧ hF.2.2 ≤ 7302250)
    {p : Program} {e : Env} {s : State} {m : MethodId} {below : List Frame} {meth : Method} {c : Code} (l : Launch) {b L : Nat} {xs : Nat → Int32} (hL : L ≤ 3072) (C0 : lw_At p s m meth c b L xs) : W p l e room_1 s m #[Value.ref b] below meth c s.heap [] 0 0 (lw_Z below #[Value.ref b] s) (entryFrame m ([Value.ref b] : List Value).toArray 4) := by
  obtain ⟨hx, hb, hr, hml, hown, hts, hX, hbl, hlocks, hgv⟩ := id C0
  have htw : ∀ w ∈ kWs, w.before #[Value.ref b] s = true := fun w h => hts w (kWs_in h)
  obtain ⟨D, hK⟩ := k_known htw k_inst
  have hs := flat_of_before _ hgv
  have hA : ∀ a : Nat, a < s.heap.size → ¬ kA s.heap.size a := fun a ha => Nat.not_le.mpr ha
  obtain ⟨t1, ht1, cl1, q11, q12, q13, q14, q15, q16, q17⟩ := va_Tof (tm := .static "KnockFinder" "OPTION_LOW" "[I") (ty := .int) (N := 5) (f := fun j => .int (klow j)) (A := kA s.heap.size) (by decide) (hs _ (by decide +kernel)) (va_eqt (hs (.eq (.length (.static "KnockFinder" "OPTION_LOW" "[I")) (.int 5)) (by decide +kernel))) (k_low hgv) hA
  obtain ⟨t2, ht2, cl2, q21, q22, q23, q24, q25, q26, q27⟩ := va_Tof (tm := .static "KnockFinder" "OPTION_HIGH" "[I") (ty := .int) (N := 5) (f := fun j => .int (khigh j)) (A := kA s.heap.size) (by decide) (hs _ (by decide +kernel)) (va_eqt (hs (.eq (.length (.static "KnockFinder" "OPTION_HIGH" "[I")) (.int 5)) (by decide +kernel))) (k_high hgv) hA
  have hZ1 := va_Zof (hts (.laysStatic "KnockFinder" "OPTION_LOW" "[I") (by decide +kernel)) (hts (.initialized "KnockFinder") (by decide +kernel)) ht1 hA
  have hZ2 := va_Zof (hts (.laysStatic "KnockFinder" "OPTION_HIGH" "[I") (by decide +kernel)) (hts (.initialized "KnockFinder") (by decide +kernel)) ht2 hA
  have l1 : t1 < s.heap.size := (Array.getElem?_eq_some_iff.mp q11).1
  have l2 : t2 < s.heap.size := (Array.getElem?_eq_some_iff.mp q21).1
  obtain ⟨ad, ead⟩ : ∃ ad : Nat → Nat, ad = fun k => if k < 32 then (if k = 1 then t1 else if k = 2 then t2 else b) else s.heap.size + (k - 32) := ⟨_, rfl⟩
  have had : kAd ad s.heap.size := by
    subst ead
    refine ⟨fun k hk => if_neg (by omega), fun k hk => ?_⟩
    show (if k < 32 then (if k = 1 then t1 else if k = 2 then t2 else b) else s.heap.size + (k - 32)) < _
    rw [if_pos hk]
    split
    · exact l1
    · split
      · exact l2
      · exact hbl
  have a0 : ad 0 = b := by subst ead; rfl
  have a1 : ad 1 = t1 := by subst ead; rfl
  have a2 : ad 2 = t2 := by subst ead; rfl
  have hrel : kRel D ad s.heap.size (kh0 L xs) s s.heap := by
    refine ⟨?_, Nat.le_refl 32, fun k e hk => ?_, by rw [kZ, a1, a2]; exact ⟨hZ1, hZ2⟩⟩
    · show s.heap.size = ad 32
      rw [had.1 32 (Nat.le_refl 32)]
      omega
    · simp only [kh0] at hk
      by_cases k0 : k = 0
      · subst k0
        rw [if_pos rfl] at hk
        cases hk
        obtain ⟨scr, h1, h2, h3, h4, h5⟩ := hX
        exact Or.inl ⟨by omega, rfl, L, xs, rfl, scr, by rw [a0]; exact h1, h2, h3, ⟨by omega, by rw [h4]⟩, h5⟩
      · rw [if_neg k0] at hk
        by_cases k1 : k = 1
        · subst k1
          rw [if_pos rfl] at hk
          cases hk
          exact Or.inl ⟨by omega, rfl, 5, klow, rfl, cl1, by rw [a1]; exact q11, q12, q13, ⟨q14, q15⟩, q16⟩
        · rw [if_neg k1] at hk
          by_cases k2 : k = 2
          · subst k2
            rw [if_pos rfl] at hk
            cases hk
            exact Or.inl ⟨by omega, rfl, 5, khigh, rfl, cl2, by rw [a2]; exact q21, q22, q23, ⟨q24, q25⟩, q26⟩
          · rw [if_neg k2] at hk
            cases hk
  have hNw : kNw s := by
    refine ⟨fun w hw => ?_, hts (.arrayOver (.object "KnockFinder$State")) (by decide +kernel)⟩
    have h1 := List.all_eq_true.mp k_nsin w hw
    simp only [Bool.and_eq_true, decide_eq_true_eq] at h1
    exact va_Nw.of h1.2 (hts w h1.1)
  have hC : kCx p s m #[Value.ref b] meth c D ad s.heap.size kIL := ⟨hx, hb, hml, hown, htw, fun z => absurd z (by decide), hK, had, hNw, Nat.le_refl _, hrel.2.2.2⟩
  obtain ⟨hF, hrun, hr1, hr2⟩ := hrun L xs hL
  rw [rn] at hrun
  have hM : kms[mL_law]? = some (kt_L_law, 4) := rfl
  rw [hM] at hrun
  dsimp only at hrun
  rw [if_pos (by decide)] at hrun
  obtain ⟨n, hn⟩ := klim_to _ hrun
  have hlv := lv_entry ([Value.ref b]) (n := 4) (Nat.le_of_ble_eq_true rfl)
  rw [lg_entry_eq]
  generalize (lg_sl ([Value.ref b]) ++ List.replicate (4 - (lg_sl ([Value.ref b])).length) Slot.unset).toArray = ls at hlv ⊢
  have hin : kIn s D ad s.heap.size kIL 32 0 (kent 4 [.ref 0]) (kh0 L xs) s.heap [] 0 0 ls := ⟨⟨hlv.1, hlv.2.1, fun q hq => hlv.2.2 q (by
      have := kent_args ad [.ref 0] 4 0 q hq
      rw [show ([Value.ref 0] : List Value).map (kv ad) = [Value.ref b] by rw [← a0]; rfl] at this
      exact this)⟩, rfl, hrel, va_S.rf, rfl, rfl⟩
  refine k_walk (Q := lw_Z below #[Value.ref b] s) (R := room_1) kCl_ok hC ⟨Nat.le_refl 14, Nat.le_refl 540⟩ hokL (k_sound l kCl_ok had hall hlen d) (rF := some (.int 1)) (hF := hF) ⟨hr1, by show hF.2.2 ≤ 0 + 7302250; omega⟩ ?_ n 0 _ [] (kh0 L xs) hn s.heap [] 0 0 ls hin
  intro pc L2 S H locs cells slots ls2 he hin2
  obtain ⟨-, -, -, hS2, hcs2, hss2⟩ := hin2
  rcases he with ⟨v, rfl, hv, hd, -⟩ | ⟨v, rfl, hv, hd, -⟩ | ⟨v, rfl, hv, hd, -⟩ | ⟨rfl, hv, hd, -⟩
  · cases hv
    refine va_forget hS2.2.2 (W.widen (k := 600000) (n := 7302250) (by omega) (by omega) ?_)
    exact lw_ret hx hb hr hlocks hd
  · cases hv
  · cases hv
  · cases hv
