/-! OWN: the cells of the two objects as a typed memory: i ints of objects, l longs of objects (by address and slot), I rows of ints, bytes, booleans, J rows of longs (by address); nw, df: the states that are now and draft; P the row of past states -/
def kdA : List (Nat × Nat) := [(12, 0), (10, 0), (20, 240), (20, 3), (20, 3), (8, 0), (20, 5), (7, 0), (20, 10), (20, 10), (3, 0), (20, 200), (20, 200), (9, 0), (20, 10), (20, 10), (5, 0), (20, 20), (20, 200), (8, 0), (20, 5), (7, 0), (20, 10), (20, 10), (3, 0), (20, 200), (20, 200), (9, 0), (20, 10), (20, 10), (5, 0), (20, 20), (20, 200), (24, 8), (3, 0), (20, 200), (20, 200), (3, 0), (20, 200), (20, 200), (6, 0), (6, 0), (2, 0), (21, 200), (21, 200), (20, 200), (21, 200), (21, 200), (1, 0), (20, 200), (20, 200), (20, 200), (21, 200), (4, 0), (21, 800), (20, 200), (4, 0), (21, 800), (20, 200), (11, 0), (23, 5), (20, 5), (20, 5), (20, 5), (20, 30), (11, 0), (23, 5), (20, 5), (20, 5), (20, 5), (20, 30), (20, 8), (20, 699)]
def kdS : List (Nat × Nat) := [(8, 0), (20, 5), (7, 0), (20, 10), (20, 10), (3, 0), (20, 200), (20, 200), (9, 0), (20, 10), (20, 10), (5, 0), (20, 20), (20, 200)]
def kdM : List (Nat × Nat) := [(13, 0), (20, 676), (20, 676), (20, 5408), (22, 240), (20, 20), (20, 200), (20, 200), (20, 4), (20, 200), (20, 200), (21, 200), (20, 200), (21, 200), (23, 200), (21, 1600), (23, 400), (23, 200), (20, 8), (20, 5), (20, 5), (20, 30), (23, 5), (22, 80), (22, 25)]
def kd (q : Nat) : Nat × Nat := if q < 105 then kdA.getD (q - 32) (99, 0) else if q < 217 then kdS.getD ((q - 105) % 14) (99, 0) else kdM.getD (q - 217) (99, 0)
def stB (s : Nat) : Nat := if s = 0 then 37 else if s = 1 then 51 else 105 + 14 * (s - 2)
/-- where a field that is a reference points -/
def krf (nw df q c k : Nat) : Nat := if c = 12 then (if k = 1 then nw else if k = 2 then df else ([33, 37, 51, 65, 0, 0, 66, 69, 72, 73, 74, 80, 85, 88, 91, 97, 103, 104] : List Nat).getD k 0) else if c = 13 then ([218, 219, 220, 0, 221, 0, 0, 0, 0, 0, 0, 222, 0, 0, 0, 223, 224, 225, 0, 226, 227, 228, 0, 229, 230, 0, 0, 0, 0, 0, 0, 231, 232, 233, 234, 0, 0, 0, 235, 236, 237, 238, 239, 0, 240, 0, 241, 0, 0, 0, 0, 0, 0, 0] : List Nat).getD k 0 else q + (([[0, 0, 0, 0], [0, 1, 2, 3, 4], [0, 0, 0, 0, 1, 2, 0, 0, 3, 4, 5, 0, 0, 0], [1, 2, 0], [1, 2, 0, 0, 0, 0], [1, 2, 0], [0, 0], [1, 2, 0], [0, 0, 0, 0, 1, 2, 5, 8, 11], [1, 2, 0], [1, 0, 0, 0, 0, 2, 3], [1, 2, 3, 4, 0, 0, 0, 5], [0, 0, 0, 0, 0, 0, 0, 0, 0, 0, 0, 0, 0, 0, 0, 0, 0, 0], [0, 0, 0, 0, 0, 0, 0, 0, 0, 0, 0, 0, 0, 0, 0, 0, 0, 0, 0, 0, 0, 0, 0, 0, 0, 0, 0, 0, 0, 0, 0, 0, 0, 0, 0, 0, 0, 0, 0, 0, 0, 0, 0, 0, 0, 0, 0, 0, 0, 0, 0, 0, 0, 0]] : List (List Nat)).getD c []).getD k 0
def kNf (c : Nat) : Nat := ([4, 5, 14, 3, 6, 3, 2, 3, 9, 3, 7, 8, 18, 54] : List Nat).getD c 0
def kfv (i : Nat → Nat → Int32) (l : Nat → Nat → Int64) (nw df q c k : Nat) : Value := match kty c k with
  | .int => .int (i q k)
  | .boolean => .int (i q k)
  | .long => .long (l q k)
  | _ => .ref (krf nw df q c k)
def kce (i : Nat → Nat → Int32) (l : Nat → Nat → Int64) (I : Nat → Nat → Int32) (J : Nat → Nat → Int64) (nw df : Nat) (P : Nat → Nat) (q : Nat) : kE :=
  if (kd q).1 = 20 then .inl (.int, (kd q).2, .inl (I q)) else if (kd q).1 = 21 then .inl (.long, (kd q).2, .inr (.inl (J q))) else if (kd q).1 = 22 then .inl (.byte, (kd q).2, .inl (I q)) else if (kd q).1 = 23 then .inl (.boolean, (kd q).2, .inl (I q)) else if (kd q).1 = 24 then .inl (.object "KnockFinder$State", (kd q).2, .inr (.inr (.inr (.inr fun j => some (P j))))) else kob (kd q).1 (kNf (kd q).1) (kfv i l nw df q (kd q).1)
/-- the heap that holds it -/
def mH (h : kH) (i : Nat → Nat → Int32) (l : Nat → Nat → Int64) (I : Nat → Nat → Int32) (J : Nat → Nat → Int64) (nw df : Nat) (P : Nat → Nat) : kH := (fun q => if 32 ≤ q ∧ q < 242 then some (kce i l I J nw df P q) else h.1 q, h.2)
def ku2 {α : Type} (f : Nat → Nat → α) (q k : Nat) (v : α) : Nat → Nat → α := fun a b => if a = q ∧ b = k then v else f a b
theorem ku2_eq {α : Type} (f : Nat → Nat → α) (q k : Nat) (v : α) : ku2 f q k v q k = v := by simp [ku2]
theorem ku2_ne {α : Type} {f : Nat → Nat → α} {q k a b : Nat} {v : α} (h : ¬ (a = q ∧ b = k)) : ku2 f q k v a b = f a b := by simp only [ku2]; rw [if_neg h]
section KMEM
variable {h : kH} {i : Nat → Nat → Int32} {l : Nat → Nat → Int64} {I : Nat → Nat → Int32} {J : Nat → Nat → Int64} {nw df : Nat} {P : Nat → Nat}
theorem mH_at {q : Nat} (hq : 32 ≤ q ∧ q < 242) : (mH h i l I J nw df P).1 q = some (kce i l I J nw df P q) := by simp only [mH]; rw [if_pos hq]
theorem kd_in {q c n : Nat} (hq : kd q = (c, n)) (hc : c < 99) : q < 242 := by
  rcases Nat.lt_or_ge q 242 with z | z
  · exact z
  · have e : kd q = (99, 0) := by
      unfold kd
      rw [if_neg (by omega), if_neg (by omega), List.getD_eq_getElem?_getD, List.getElem?_eq_none (by simp [kdM]; omega)]
      rfl
    rw [e] at hq
    cases hq
    omega
theorem mH_ob {q c : Nat} (hq : kd q = (c, 0)) (h32 : 32 ≤ q) (hc : c < 20) : (mH h i l I J nw df P).1 q = some (kob c (kNf c) (kfv i l nw df q c)) := by
  rw [mH_at ⟨h32, kd_in hq (by omega)⟩, kce, hq]
  simp only
  rw [if_neg (by omega), if_neg (by omega), if_neg (by omega), if_neg (by omega), if_neg (by omega)]
theorem mH_in {q n : Nat} (hq : kd q = (20, n)) (h32 : 32 ≤ q) : (mH h i l I J nw df P).1 q = some (.inl (.int, n, .inl (I q))) := by
  rw [mH_at ⟨h32, kd_in hq (by omega)⟩, kce, hq]; rfl
theorem mH_lo {q n : Nat} (hq : kd q = (21, n)) (h32 : 32 ≤ q) : (mH h i l I J nw df P).1 q = some (.inl (.long, n, .inr (.inl (J q)))) := by
  rw [mH_at ⟨h32, kd_in hq (by omega)⟩, kce, hq]; rfl
theorem mH_by {q n : Nat} (hq : kd q = (22, n)) (h32 : 32 ≤ q) : (mH h i l I J nw df P).1 q = some (.inl (.byte, n, .inl (I q))) := by
  rw [mH_at ⟨h32, kd_in hq (by omega)⟩, kce, hq]; rfl
theorem mH_bo {q n : Nat} (hq : kd q = (23, n)) (h32 : 32 ≤ q) : (mH h i l I J nw df P).1 q = some (.inl (.boolean, n, .inl (I q))) := by
  rw [mH_at ⟨h32, kd_in hq (by omega)⟩, kce, hq]; rfl
theorem mH_st : (mH h i l I J nw df P).1 65 = some (.inl (.object "KnockFinder$State", 8, .inr (.inr (.inr (.inr fun j => some (P j)))))) := by
  rw [mH_at ⟨by omega, by omega⟩]; rfl
/-- reads -/
theorem m_fld {q c k : Nat} (hq : kd q = (c, 0)) (h32 : 32 ≤ q) (hc : c < 20) (hk : k < kNf c) : kfld (mH h i l I J nw df P) c q k = some (kfv i l nw df q c k) := kob_fld (mH_ob hq h32 hc) hk
theorem m_is {q c : Nat} (hq : kd q = (c, 0)) (h32 : 32 ≤ q) (hc : c < 20) : kis (mH h i l I J nw df P) c q = true := kob_is (mH_ob hq h32 hc)
theorem m_il {q n : Nat} {x : Int32} (hq : kd q = (20, n)) (h32 : 32 ≤ q) : kil (mH h i l I J nw df P) q x = if kin x n then some (I q x.toNatClampNeg) else none := by
  simp only [kil, mH_in hq h32]
theorem m_ll {q n : Nat} {x : Int32} (hq : kd q = (21, n)) (h32 : 32 ≤ q) : kll (mH h i l I J nw df P) q x = if kin x n then some (J q x.toNatClampNeg) else none := by
  simp only [kll, mH_lo hq h32]
theorem m_bl {q n : Nat} {x : Int32} (hq : kd q = (22, n)) (h32 : 32 ≤ q) : kbl (mH h i l I J nw df P) q x = if kin x n then some (I q x.toNatClampNeg) else none := by
  simp only [kbl, mH_by hq h32]
theorem m_zl {q n : Nat} {x : Int32} (hq : kd q = (23, n)) (h32 : 32 ≤ q) : kbl (mH h i l I J nw df P) q x = if kin x n then some (I q x.toNatClampNeg) else none := by
  simp only [kbl, mH_bo hq h32]
theorem m_al {x : Int32} : kal (mH h i l I J nw df P) 65 x = if kin x 8 then some (.ref (P x.toNatClampNeg)) else none := by
  simp only [kal, mH_st, va_rf]
theorem m_len {q c n : Nat} (hq : kd q = (c, n)) (h32 : 32 ≤ q) (hc : 20 ≤ c) (hc2 : c < 25) : klen (mH h i l I J nw df P) q = some (Int32.ofNat n) := by
  have e := mH_at (h := h) (i := i) (l := l) (I := I) (J := J) (nw := nw) (df := df) (P := P) ⟨h32, kd_in hq (by omega)⟩
  rw [kce, hq] at e
  simp only at e
  rcases (show c = 20 ∨ c = 21 ∨ c = 22 ∨ c = 23 ∨ c = 24 by omega) with rfl | rfl | rfl | rfl | rfl <;> simp only [klen, e] <;> rfl
/-- writes -/
theorem mH_ext {i' : Nat → Nat → Int32} {l' : Nat → Nat → Int64} {I' : Nat → Nat → Int32} {J' : Nat → Nat → Int64} {nw' df' : Nat} {P' : Nat → Nat} {q : Nat} {e : kE} (h1 : 32 ≤ q ∧ q < 242) (he : e = kce i' l' I' J' nw' df' P' q) (ho : ∀ p, p ≠ q → 32 ≤ p → p < 242 → kce i l I J nw df P p = kce i' l' I' J' nw' df' P' p) : kup (mH h i l I J nw df P) q e = mH h i' l' I' J' nw' df' P' := by
  simp only [kup, mH]
  congr 1
  funext p
  by_cases hp : p = q
  · subst hp
    rw [if_pos rfl, if_pos h1, he]
  · rw [if_neg hp]
    by_cases hr : 32 ≤ p ∧ p < 242
    · rw [if_pos hr, if_pos hr, ho p hp hr.1 hr.2]
    · rw [if_neg hr, if_neg hr]
theorem kce_i {p q k : Nat} {x : Int32} (hp : p ≠ q) : kce (ku2 i q k x) l I J nw df P p = kce i l I J nw df P p := by
  have e : ∀ c, kfv (ku2 i q k x) l nw df p c = kfv i l nw df p c := fun c => by
    funext j
    unfold kfv
    rw [ku2_ne (fun z => hp z.1)]
  simp only [kce, e]
theorem kce_l {p q k : Nat} {x : Int64} (hp : p ≠ q) : kce i (ku2 l q k x) I J nw df P p = kce i l I J nw df P p := by
  have e : ∀ c, kfv i (ku2 l q k x) nw df p c = kfv i l nw df p c := fun c => by
    funext j
    unfold kfv
    rw [ku2_ne (fun z => hp z.1)]
  simp only [kce, e]
theorem kce_I {p q : Nat} {f : Nat → Int32} (hp : p ≠ q) : kce i l (va_up I q f) J nw df P p = kce i l I J nw df P p := by
  have e : va_up I q f p = I p := if_neg hp
  simp only [kce, e]
theorem kce_J {p q : Nat} {f : Nat → Int64} (hp : p ≠ q) : kce i l I (va_up J q f) nw df P p = kce i l I J nw df P p := by
  have e : va_up J q f p = J p := if_neg hp
  simp only [kce, e]
theorem kce_n {p a b : Nat} (hp : kd p ≠ (12, 0)) : kce i l I J a b P p = kce i l I J nw df P p := by
  have e : (kd p).1 < 20 → kfv i l a b p (kd p).1 = kfv i l nw df p (kd p).1 := fun hz => by
    funext j
    unfold kfv krf
    have hc : (kd p).1 ≠ 12 := fun z => hp (by
      have : ∀ q, (kd q).1 = 12 → kd q = (12, 0) := by
        intro q hq
        have hb : ∀ q, q < 242 → (kd q).1 = 12 → kd q = (12, 0) := by decide +kernel
        rcases Nat.lt_or_ge q 242 with y | y
        · exact hb q y hq
        · exfalso
          have e : kd q = (99, 0) := by
            unfold kd
            rw [if_neg (by omega), if_neg (by omega), List.getD_eq_getElem?_getD, List.getElem?_eq_none (by simp [kdM]; omega)]
            rfl
          rw [e] at hq
          cases hq
      exact this p z)
    simp only [hc, if_false]
  unfold kce
  split
  · rfl
  · split
    · rfl
    · split
      · rfl
      · split
        · rfl
        · split
          · rfl
          · rename_i q1 q2 q3 q4 q5
            rcases Nat.lt_or_ge (kd p).1 20 with z | z
            · rw [e z]
            · have hn : kNf (kd p).1 = 0 := by
                unfold kNf
                rw [List.getD_eq_getElem?_getD, List.getElem?_eq_none (by simp; omega)]
                rfl
              simp only [kob, hn, List.range_zero, List.map_nil]
theorem kce_P {p : Nat} {g : Nat → Nat} (hp : p ≠ 65) (h32 : 32 ≤ p ∧ p < 242) : kce i l I J nw df g p = kce i l I J nw df P p := by
  have hb : ∀ q, q < 242 → 32 ≤ q → q ≠ 65 → (kd q).1 ≠ 24 := by decide +kernel
  unfold kce
  rw [if_neg (hb p h32.2 h32.1 hp), if_neg (hb p h32.2 h32.1 hp)]
/-- an int of an object is written -/
theorem m_pi {q c k : Nat} {x : Int32} (hq : kd q = (c, 0)) (h32 : 32 ≤ q) (hc : c < 20) (hk : k < kNf c) (hy : kty c k = .int) : kput (mH h i l I J nw df P) c q k (kty c k) (.int x) = some (mH h (ku2 i q k x) l I J nw df P) := by
  rw [kob_put (mH_ob hq h32 hc) hk h32 (by rw [hy]; rfl), mH_ext (i' := ku2 i q k x) (l' := l) (I' := I) (J' := J) (nw' := nw) (df' := df) (P' := P) ⟨h32, kd_in hq (by omega)⟩ ?_ (fun p hp _ _ => (kce_i hp).symm)]
  rw [kce, hq]
  simp only
  rw [if_neg (by omega), if_neg (by omega), if_neg (by omega), if_neg (by omega), if_neg (by omega)]
  congr 1
  funext j
  unfold va_up
  by_cases hj : j = k
  · subst hj
    rw [if_pos rfl, kfv, hy]
    simp only [ku2_eq]
  · rw [if_neg hj]
    unfold kfv
    rw [ku2_ne (fun z => hj z.2)]
theorem m_pz {q c k : Nat} {x : Int32} (hq : kd q = (c, 0)) (h32 : 32 ≤ q) (hc : c < 20) (hk : k < kNf c) (hy : kty c k = .boolean) (hx : x = 0 ∨ x = 1) : kput (mH h i l I J nw df P) c q k (kty c k) (.int x) = some (mH h (ku2 i q k x) l I J nw df P) := by
  rw [kob_put (mH_ob hq h32 hc) hk h32 (by rw [hy]; rcases hx with rfl | rfl <;> rfl), mH_ext (i' := ku2 i q k x) (l' := l) (I' := I) (J' := J) (nw' := nw) (df' := df) (P' := P) ⟨h32, kd_in hq (by omega)⟩ ?_ (fun p hp _ _ => (kce_i hp).symm)]
  rw [kce, hq]
  simp only
  rw [if_neg (by omega), if_neg (by omega), if_neg (by omega), if_neg (by omega), if_neg (by omega)]
  congr 1
  funext j
  unfold va_up
  by_cases hj : j = k
  · subst hj
    rw [if_pos rfl, kfv, hy]
    simp only [ku2_eq]
  · rw [if_neg hj]
    unfold kfv
    rw [ku2_ne (fun z => hj z.2)]
theorem m_pl {q c k : Nat} {x : Int64} (hq : kd q = (c, 0)) (h32 : 32 ≤ q) (hc : c < 20) (hk : k < kNf c) (hy : kty c k = .long) : kput (mH h i l I J nw df P) c q k (kty c k) (.long x) = some (mH h i (ku2 l q k x) I J nw df P) := by
  rw [kob_put (mH_ob hq h32 hc) hk h32 (by rw [hy]; rfl), mH_ext (i' := i) (l' := ku2 l q k x) (I' := I) (J' := J) (nw' := nw) (df' := df) (P' := P) ⟨h32, kd_in hq (by omega)⟩ ?_ (fun p hp _ _ => (kce_l hp).symm)]
  rw [kce, hq]
  simp only
  rw [if_neg (by omega), if_neg (by omega), if_neg (by omega), if_neg (by omega), if_neg (by omega)]
  congr 1
  funext j
  unfold va_up
  by_cases hj : j = k
  · subst hj
    rw [if_pos rfl, kfv, hy]
    simp only [ku2_eq]
  · rw [if_neg hj]
    unfold kfv
    rw [ku2_ne (fun z => hj z.2)]
theorem m_pnw {a : Nat} : kput (mH h i l I J nw df P) 12 32 1 (kty 12 1) (.ref a) = some (mH h i l I J a df P) := by
  rw [kob_put (mH_ob (c := 12) rfl (by omega) (by omega)) (by decide) (by omega) rfl, mH_ext (i' := i) (l' := l) (I' := I) (J' := J) (nw' := a) (df' := df) (P' := P) ⟨by omega, by omega⟩ ?_ (fun p hp h1 h2 => (kce_n (fun z => hp (by
    have hb : ∀ q, q < 242 → 32 ≤ q → kd q = (12, 0) → q = 32 := by decide +kernel
    exact hb p h2 h1 z))).symm)]
  show _ = kob 12 18 (kfv i l a df 32 12)
  show kob 12 18 _ = kob 12 18 _
  congr 1
  funext j
  unfold va_up
  by_cases hj : j = 1
  · subst hj; rfl
  · rw [if_neg hj]
    unfold kfv krf
    simp [hj]
theorem m_pdf {a : Nat} : kput (mH h i l I J nw df P) 12 32 2 (kty 12 2) (.ref a) = some (mH h i l I J nw a P) := by
  rw [kob_put (mH_ob (c := 12) rfl (by omega) (by omega)) (by decide) (by omega) rfl, mH_ext (i' := i) (l' := l) (I' := I) (J' := J) (nw' := nw) (df' := a) (P' := P) ⟨by omega, by omega⟩ ?_ (fun p hp h1 h2 => (kce_n (fun z => hp (by
    have hb : ∀ q, q < 242 → 32 ≤ q → kd q = (12, 0) → q = 32 := by decide +kernel
    exact hb p h2 h1 z))).symm)]
  show kob 12 18 _ = kob 12 18 (kfv i l nw a 32 12)
  congr 1
  funext j
  unfold va_up
  by_cases hj : j = 2
  · subst hj; rfl
  · rw [if_neg hj]
    unfold kfv krf
    simp [hj]
theorem m_is_ {q n : Nat} {x v : Int32} (hq : kd q = (20, n)) (h32 : 32 ≤ q) : kis_ (mH h i l I J nw df P) q x v = if kin x n then some (mH h i l (va_up I q (upd (I q) x.toNatClampNeg v)) J nw df P) else none := by
  by_cases hk : kin x n
  · rw [kis_of (mH_in hq h32) hk h32, if_pos hk, mH_ext (i' := i) (l' := l) (I' := va_up I q (upd (I q) x.toNatClampNeg v)) (J' := J) (nw' := nw) (df' := df) (P' := P) ⟨h32, kd_in hq (by omega)⟩ ?_ (fun p hp _ _ => (kce_I hp).symm)]
    rw [kce, hq]
    simp [va_up]
  · rw [if_neg hk]
    simp only [kis_, mH_in hq h32]
    rw [if_neg (fun z => hk z.1)]
theorem m_bs {q n : Nat} {x v : Int32} (hq : kd q = (22, n)) (h32 : 32 ≤ q) : kbs (mH h i l I J nw df P) q x v = if kin x n then some (mH h i l (va_up I q (upd (I q) x.toNatClampNeg (vp_nar .byte v))) J nw df P) else none := by
  by_cases hk : kin x n
  · rw [kbs_of (mH_by hq h32) hk h32, if_pos hk, mH_ext (i' := i) (l' := l) (I' := va_up I q (upd (I q) x.toNatClampNeg (vp_nar .byte v))) (J' := J) (nw' := nw) (df' := df) (P' := P) ⟨h32, kd_in hq (by omega)⟩ ?_ (fun p hp _ _ => (kce_I hp).symm)]
    rw [kce, hq]
    simp [va_up]
  · rw [if_neg hk]
    simp only [kbs, mH_by hq h32]
    rw [if_neg (fun z => hk z.1)]
theorem m_zs {q n : Nat} {x v : Int32} (hq : kd q = (23, n)) (h32 : 32 ≤ q) : kbs (mH h i l I J nw df P) q x v = if kin x n then some (mH h i l (va_up I q (upd (I q) x.toNatClampNeg (vp_nar .boolean v))) J nw df P) else none := by
  by_cases hk : kin x n
  · rw [kbt_of (mH_bo hq h32) hk h32, if_pos hk, mH_ext (i' := i) (l' := l) (I' := va_up I q (upd (I q) x.toNatClampNeg (vp_nar .boolean v))) (J' := J) (nw' := nw) (df' := df) (P' := P) ⟨h32, kd_in hq (by omega)⟩ ?_ (fun p hp _ _ => (kce_I hp).symm)]
    rw [kce, hq]
    simp [va_up]
  · rw [if_neg hk]
    simp only [kbs, mH_bo hq h32]
    rw [if_neg (fun z => hk z.1)]
theorem m_ls {q n : Nat} {x : Int32} {v : Int64} (hq : kd q = (21, n)) (h32 : 32 ≤ q) : kls (mH h i l I J nw df P) q x v = if kin x n then some (mH h i l I (va_up J q (vp_updL (J q) x.toNatClampNeg v)) nw df P) else none := by
  by_cases hk : kin x n
  · rw [kls_of (mH_lo hq h32) hk h32, if_pos hk, mH_ext (i' := i) (l' := l) (I' := I) (J' := va_up J q (vp_updL (J q) x.toNatClampNeg v)) (nw' := nw) (df' := df) (P' := P) ⟨h32, kd_in hq (by omega)⟩ ?_ (fun p hp _ _ => (kce_J hp).symm)]
    rw [kce, hq]
    simp [va_up]
  · rw [if_neg hk]
    simp only [kls, mH_lo hq h32]
    rw [if_neg (fun z => hk z.1)]
theorem m_as {x : Int32} {v : Nat} (hv : kd v = (8, 0)) (h32 : 32 ≤ v) : kas (mH h i l I J nw df P) 8 65 x v = if kin x 8 then some (mH h i l I J nw df (va_up P x.toNatClampNeg v)) else none := by
  simp only [kas, mH_st, m_is hv h32 (by omega)]
  by_cases hk : kin x 8
  · rw [if_pos ⟨hk, by omega, trivial, trivial⟩, if_pos hk, mH_ext (i' := i) (l' := l) (I' := I) (J' := J) (nw' := nw) (df' := df) (P' := va_up P x.toNatClampNeg v) ⟨by omega, by omega⟩ ?_ (fun p hp h1 h2 => (kce_P hp ⟨h1, h2⟩).symm)]
    show _ = Sum.inl (FieldType.object "KnockFinder$State", 8, Sum.inr (Sum.inr (Sum.inr (Sum.inr fun j => some (va_up P x.toNatClampNeg v j)))))
    congr 7
    funext j
    unfold va_up
    split <;> rfl
  · rw [if_neg hk, if_neg (fun z => hk z.1)]
end KMEM
theorem g1_0 {h : kH} {i : Nat → Nat → Int32} {l : Nat → Nat → Int64} {I : Nat → Nat → Int32} {J : Nat → Nat → Int64} {nw df : Nat} {P : Nat → Nat} {q : Nat} (hq : kd q = (1, 0)) (h32 : 32 ≤ q) : kfld (mH h i l I J nw df P) 1 q 0 = some (.int (i q 0)) := m_fld hq h32 (by decide) (by decide)
theorem p1_0 {h : kH} {i : Nat → Nat → Int32} {l : Nat → Nat → Int64} {I : Nat → Nat → Int32} {J : Nat → Nat → Int64} {nw df : Nat} {P : Nat → Nat} {q : Nat} (hq : kd q = (1, 0)) (h32 : 32 ≤ q) {x : Int32} : kput (mH h i l I J nw df P) 1 q 0 (kty 1 0) (.int x) = some (mH h (ku2 i q 0 x) l I J nw df P) := m_pi hq h32 (by decide) (by decide) rfl
theorem g1_1 {h : kH} {i : Nat → Nat → Int32} {l : Nat → Nat → Int64} {I : Nat → Nat → Int32} {J : Nat → Nat → Int64} {nw df : Nat} {P : Nat → Nat} {q : Nat} (hq : kd q = (1, 0)) (h32 : 32 ≤ q) : kfld (mH h i l I J nw df P) 1 q 1 = some (.ref (q + 1)) := m_fld hq h32 (by decide) (by decide)
theorem g1_2 {h : kH} {i : Nat → Nat → Int32} {l : Nat → Nat → Int64} {I : Nat → Nat → Int32} {J : Nat → Nat → Int64} {nw df : Nat} {P : Nat → Nat} {q : Nat} (hq : kd q = (1, 0)) (h32 : 32 ≤ q) : kfld (mH h i l I J nw df P) 1 q 2 = some (.ref (q + 2)) := m_fld hq h32 (by decide) (by decide)
theorem g1_3 {h : kH} {i : Nat → Nat → Int32} {l : Nat → Nat → Int64} {I : Nat → Nat → Int32} {J : Nat → Nat → Int64} {nw df : Nat} {P : Nat → Nat} {q : Nat} (hq : kd q = (1, 0)) (h32 : 32 ≤ q) : kfld (mH h i l I J nw df P) 1 q 3 = some (.ref (q + 3)) := m_fld hq h32 (by decide) (by decide)
theorem g1_4 {h : kH} {i : Nat → Nat → Int32} {l : Nat → Nat → Int64} {I : Nat → Nat → Int32} {J : Nat → Nat → Int64} {nw df : Nat} {P : Nat → Nat} {q : Nat} (hq : kd q = (1, 0)) (h32 : 32 ≤ q) : kfld (mH h i l I J nw df P) 1 q 4 = some (.ref (q + 4)) := m_fld hq h32 (by decide) (by decide)
theorem g2_0 {h : kH} {i : Nat → Nat → Int32} {l : Nat → Nat → Int64} {I : Nat → Nat → Int32} {J : Nat → Nat → Int64} {nw df : Nat} {P : Nat → Nat} {q : Nat} (hq : kd q = (2, 0)) (h32 : 32 ≤ q) : kfld (mH h i l I J nw df P) 2 q 0 = some (.int (i q 0)) := m_fld hq h32 (by decide) (by decide)
theorem p2_0 {h : kH} {i : Nat → Nat → Int32} {l : Nat → Nat → Int64} {I : Nat → Nat → Int32} {J : Nat → Nat → Int64} {nw df : Nat} {P : Nat → Nat} {q : Nat} (hq : kd q = (2, 0)) (h32 : 32 ≤ q) {x : Int32} : kput (mH h i l I J nw df P) 2 q 0 (kty 2 0) (.int x) = some (mH h (ku2 i q 0 x) l I J nw df P) := m_pi hq h32 (by decide) (by decide) rfl
theorem g2_1 {h : kH} {i : Nat → Nat → Int32} {l : Nat → Nat → Int64} {I : Nat → Nat → Int32} {J : Nat → Nat → Int64} {nw df : Nat} {P : Nat → Nat} {q : Nat} (hq : kd q = (2, 0)) (h32 : 32 ≤ q) : kfld (mH h i l I J nw df P) 2 q 1 = some (.long (l q 1)) := m_fld hq h32 (by decide) (by decide)
theorem p2_1 {h : kH} {i : Nat → Nat → Int32} {l : Nat → Nat → Int64} {I : Nat → Nat → Int32} {J : Nat → Nat → Int64} {nw df : Nat} {P : Nat → Nat} {q : Nat} (hq : kd q = (2, 0)) (h32 : 32 ≤ q) {x : Int64} : kput (mH h i l I J nw df P) 2 q 1 (kty 2 1) (.long x) = some (mH h i (ku2 l q 1 x) I J nw df P) := m_pl hq h32 (by decide) (by decide) rfl
theorem g2_2 {h : kH} {i : Nat → Nat → Int32} {l : Nat → Nat → Int64} {I : Nat → Nat → Int32} {J : Nat → Nat → Int64} {nw df : Nat} {P : Nat → Nat} {q : Nat} (hq : kd q = (2, 0)) (h32 : 32 ≤ q) : kfld (mH h i l I J nw df P) 2 q 2 = some (.long (l q 2)) := m_fld hq h32 (by decide) (by decide)
theorem p2_2 {h : kH} {i : Nat → Nat → Int32} {l : Nat → Nat → Int64} {I : Nat → Nat → Int32} {J : Nat → Nat → Int64} {nw df : Nat} {P : Nat → Nat} {q : Nat} (hq : kd q = (2, 0)) (h32 : 32 ≤ q) {x : Int64} : kput (mH h i l I J nw df P) 2 q 2 (kty 2 2) (.long x) = some (mH h i (ku2 l q 2 x) I J nw df P) := m_pl hq h32 (by decide) (by decide) rfl
theorem g2_3 {h : kH} {i : Nat → Nat → Int32} {l : Nat → Nat → Int64} {I : Nat → Nat → Int32} {J : Nat → Nat → Int64} {nw df : Nat} {P : Nat → Nat} {q : Nat} (hq : kd q = (2, 0)) (h32 : 32 ≤ q) : kfld (mH h i l I J nw df P) 2 q 3 = some (.long (l q 3)) := m_fld hq h32 (by decide) (by decide)
theorem p2_3 {h : kH} {i : Nat → Nat → Int32} {l : Nat → Nat → Int64} {I : Nat → Nat → Int32} {J : Nat → Nat → Int64} {nw df : Nat} {P : Nat → Nat} {q : Nat} (hq : kd q = (2, 0)) (h32 : 32 ≤ q) {x : Int64} : kput (mH h i l I J nw df P) 2 q 3 (kty 2 3) (.long x) = some (mH h i (ku2 l q 3 x) I J nw df P) := m_pl hq h32 (by decide) (by decide) rfl
theorem g2_4 {h : kH} {i : Nat → Nat → Int32} {l : Nat → Nat → Int64} {I : Nat → Nat → Int32} {J : Nat → Nat → Int64} {nw df : Nat} {P : Nat → Nat} {q : Nat} (hq : kd q = (2, 0)) (h32 : 32 ≤ q) : kfld (mH h i l I J nw df P) 2 q 4 = some (.ref (q + 1)) := m_fld hq h32 (by decide) (by decide)
theorem g2_5 {h : kH} {i : Nat → Nat → Int32} {l : Nat → Nat → Int64} {I : Nat → Nat → Int32} {J : Nat → Nat → Int64} {nw df : Nat} {P : Nat → Nat} {q : Nat} (hq : kd q = (2, 0)) (h32 : 32 ≤ q) : kfld (mH h i l I J nw df P) 2 q 5 = some (.ref (q + 2)) := m_fld hq h32 (by decide) (by decide)
theorem g2_6 {h : kH} {i : Nat → Nat → Int32} {l : Nat → Nat → Int64} {I : Nat → Nat → Int32} {J : Nat → Nat → Int64} {nw df : Nat} {P : Nat → Nat} {q : Nat} (hq : kd q = (2, 0)) (h32 : 32 ≤ q) : kfld (mH h i l I J nw df P) 2 q 6 = some (.int (i q 6)) := m_fld hq h32 (by decide) (by decide)
theorem p2_6 {h : kH} {i : Nat → Nat → Int32} {l : Nat → Nat → Int64} {I : Nat → Nat → Int32} {J : Nat → Nat → Int64} {nw df : Nat} {P : Nat → Nat} {q : Nat} (hq : kd q = (2, 0)) (h32 : 32 ≤ q) {x : Int32} : kput (mH h i l I J nw df P) 2 q 6 (kty 2 6) (.int x) = some (mH h (ku2 i q 6 x) l I J nw df P) := m_pi hq h32 (by decide) (by decide) rfl
theorem g2_7 {h : kH} {i : Nat → Nat → Int32} {l : Nat → Nat → Int64} {I : Nat → Nat → Int32} {J : Nat → Nat → Int64} {nw df : Nat} {P : Nat → Nat} {q : Nat} (hq : kd q = (2, 0)) (h32 : 32 ≤ q) : kfld (mH h i l I J nw df P) 2 q 7 = some (.int (i q 7)) := m_fld hq h32 (by decide) (by decide)
theorem p2_7 {h : kH} {i : Nat → Nat → Int32} {l : Nat → Nat → Int64} {I : Nat → Nat → Int32} {J : Nat → Nat → Int64} {nw df : Nat} {P : Nat → Nat} {q : Nat} (hq : kd q = (2, 0)) (h32 : 32 ≤ q) {x : Int32} : kput (mH h i l I J nw df P) 2 q 7 (kty 2 7) (.int x) = some (mH h (ku2 i q 7 x) l I J nw df P) := m_pi hq h32 (by decide) (by decide) rfl
theorem g2_8 {h : kH} {i : Nat → Nat → Int32} {l : Nat → Nat → Int64} {I : Nat → Nat → Int32} {J : Nat → Nat → Int64} {nw df : Nat} {P : Nat → Nat} {q : Nat} (hq : kd q = (2, 0)) (h32 : 32 ≤ q) : kfld (mH h i l I J nw df P) 2 q 8 = some (.ref (q + 3)) := m_fld hq h32 (by decide) (by decide)
theorem g2_9 {h : kH} {i : Nat → Nat → Int32} {l : Nat → Nat → Int64} {I : Nat → Nat → Int32} {J : Nat → Nat → Int64} {nw df : Nat} {P : Nat → Nat} {q : Nat} (hq : kd q = (2, 0)) (h32 : 32 ≤ q) : kfld (mH h i l I J nw df P) 2 q 9 = some (.ref (q + 4)) := m_fld hq h32 (by decide) (by decide)
theorem g2_10 {h : kH} {i : Nat → Nat → Int32} {l : Nat → Nat → Int64} {I : Nat → Nat → Int32} {J : Nat → Nat → Int64} {nw df : Nat} {P : Nat → Nat} {q : Nat} (hq : kd q = (2, 0)) (h32 : 32 ≤ q) : kfld (mH h i l I J nw df P) 2 q 10 = some (.ref (q + 5)) := m_fld hq h32 (by decide) (by decide)
theorem g2_11 {h : kH} {i : Nat → Nat → Int32} {l : Nat → Nat → Int64} {I : Nat → Nat → Int32} {J : Nat → Nat → Int64} {nw df : Nat} {P : Nat → Nat} {q : Nat} (hq : kd q = (2, 0)) (h32 : 32 ≤ q) : kfld (mH h i l I J nw df P) 2 q 11 = some (.int (i q 11)) := m_fld hq h32 (by decide) (by decide)
theorem p2_11 {h : kH} {i : Nat → Nat → Int32} {l : Nat → Nat → Int64} {I : Nat → Nat → Int32} {J : Nat → Nat → Int64} {nw df : Nat} {P : Nat → Nat} {q : Nat} (hq : kd q = (2, 0)) (h32 : 32 ≤ q) {x : Int32} : kput (mH h i l I J nw df P) 2 q 11 (kty 2 11) (.int x) = some (mH h (ku2 i q 11 x) l I J nw df P) := m_pi hq h32 (by decide) (by decide) rfl
theorem g2_12 {h : kH} {i : Nat → Nat → Int32} {l : Nat → Nat → Int64} {I : Nat → Nat → Int32} {J : Nat → Nat → Int64} {nw df : Nat} {P : Nat → Nat} {q : Nat} (hq : kd q = (2, 0)) (h32 : 32 ≤ q) : kfld (mH h i l I J nw df P) 2 q 12 = some (.int (i q 12)) := m_fld hq h32 (by decide) (by decide)
theorem p2_12 {h : kH} {i : Nat → Nat → Int32} {l : Nat → Nat → Int64} {I : Nat → Nat → Int32} {J : Nat → Nat → Int64} {nw df : Nat} {P : Nat → Nat} {q : Nat} (hq : kd q = (2, 0)) (h32 : 32 ≤ q) {x : Int32} : kput (mH h i l I J nw df P) 2 q 12 (kty 2 12) (.int x) = some (mH h (ku2 i q 12 x) l I J nw df P) := m_pi hq h32 (by decide) (by decide) rfl
theorem g2_13 {h : kH} {i : Nat → Nat → Int32} {l : Nat → Nat → Int64} {I : Nat → Nat → Int32} {J : Nat → Nat → Int64} {nw df : Nat} {P : Nat → Nat} {q : Nat} (hq : kd q = (2, 0)) (h32 : 32 ≤ q) : kfld (mH h i l I J nw df P) 2 q 13 = some (.int (i q 13)) := m_fld hq h32 (by decide) (by decide)
theorem p2_13 {h : kH} {i : Nat → Nat → Int32} {l : Nat → Nat → Int64} {I : Nat → Nat → Int32} {J : Nat → Nat → Int64} {nw df : Nat} {P : Nat → Nat} {q : Nat} (hq : kd q = (2, 0)) (h32 : 32 ≤ q) {x : Int32} : kput (mH h i l I J nw df P) 2 q 13 (kty 2 13) (.int x) = some (mH h (ku2 i q 13 x) l I J nw df P) := m_pi hq h32 (by decide) (by decide) rfl
theorem g3_0 {h : kH} {i : Nat → Nat → Int32} {l : Nat → Nat → Int64} {I : Nat → Nat → Int32} {J : Nat → Nat → Int64} {nw df : Nat} {P : Nat → Nat} {q : Nat} (hq : kd q = (3, 0)) (h32 : 32 ≤ q) : kfld (mH h i l I J nw df P) 3 q 0 = some (.ref (q + 1)) := m_fld hq h32 (by decide) (by decide)
theorem g3_1 {h : kH} {i : Nat → Nat → Int32} {l : Nat → Nat → Int64} {I : Nat → Nat → Int32} {J : Nat → Nat → Int64} {nw df : Nat} {P : Nat → Nat} {q : Nat} (hq : kd q = (3, 0)) (h32 : 32 ≤ q) : kfld (mH h i l I J nw df P) 3 q 1 = some (.ref (q + 2)) := m_fld hq h32 (by decide) (by decide)
theorem g3_2 {h : kH} {i : Nat → Nat → Int32} {l : Nat → Nat → Int64} {I : Nat → Nat → Int32} {J : Nat → Nat → Int64} {nw df : Nat} {P : Nat → Nat} {q : Nat} (hq : kd q = (3, 0)) (h32 : 32 ≤ q) : kfld (mH h i l I J nw df P) 3 q 2 = some (.int (i q 2)) := m_fld hq h32 (by decide) (by decide)
theorem p3_2 {h : kH} {i : Nat → Nat → Int32} {l : Nat → Nat → Int64} {I : Nat → Nat → Int32} {J : Nat → Nat → Int64} {nw df : Nat} {P : Nat → Nat} {q : Nat} (hq : kd q = (3, 0)) (h32 : 32 ≤ q) {x : Int32} : kput (mH h i l I J nw df P) 3 q 2 (kty 3 2) (.int x) = some (mH h (ku2 i q 2 x) l I J nw df P) := m_pi hq h32 (by decide) (by decide) rfl
theorem g4_0 {h : kH} {i : Nat → Nat → Int32} {l : Nat → Nat → Int64} {I : Nat → Nat → Int32} {J : Nat → Nat → Int64} {nw df : Nat} {P : Nat → Nat} {q : Nat} (hq : kd q = (4, 0)) (h32 : 32 ≤ q) : kfld (mH h i l I J nw df P) 4 q 0 = some (.ref (q + 1)) := m_fld hq h32 (by decide) (by decide)
theorem g4_1 {h : kH} {i : Nat → Nat → Int32} {l : Nat → Nat → Int64} {I : Nat → Nat → Int32} {J : Nat → Nat → Int64} {nw df : Nat} {P : Nat → Nat} {q : Nat} (hq : kd q = (4, 0)) (h32 : 32 ≤ q) : kfld (mH h i l I J nw df P) 4 q 1 = some (.ref (q + 2)) := m_fld hq h32 (by decide) (by decide)
theorem g4_2 {h : kH} {i : Nat → Nat → Int32} {l : Nat → Nat → Int64} {I : Nat → Nat → Int32} {J : Nat → Nat → Int64} {nw df : Nat} {P : Nat → Nat} {q : Nat} (hq : kd q = (4, 0)) (h32 : 32 ≤ q) : kfld (mH h i l I J nw df P) 4 q 2 = some (.int (i q 2)) := m_fld hq h32 (by decide) (by decide)
theorem p4_2 {h : kH} {i : Nat → Nat → Int32} {l : Nat → Nat → Int64} {I : Nat → Nat → Int32} {J : Nat → Nat → Int64} {nw df : Nat} {P : Nat → Nat} {q : Nat} (hq : kd q = (4, 0)) (h32 : 32 ≤ q) {x : Int32} : kput (mH h i l I J nw df P) 4 q 2 (kty 4 2) (.int x) = some (mH h (ku2 i q 2 x) l I J nw df P) := m_pi hq h32 (by decide) (by decide) rfl
theorem g4_3 {h : kH} {i : Nat → Nat → Int32} {l : Nat → Nat → Int64} {I : Nat → Nat → Int32} {J : Nat → Nat → Int64} {nw df : Nat} {P : Nat → Nat} {q : Nat} (hq : kd q = (4, 0)) (h32 : 32 ≤ q) : kfld (mH h i l I J nw df P) 4 q 3 = some (.int (i q 3)) := m_fld hq h32 (by decide) (by decide)
theorem p4_3 {h : kH} {i : Nat → Nat → Int32} {l : Nat → Nat → Int64} {I : Nat → Nat → Int32} {J : Nat → Nat → Int64} {nw df : Nat} {P : Nat → Nat} {q : Nat} (hq : kd q = (4, 0)) (h32 : 32 ≤ q) {x : Int32} : kput (mH h i l I J nw df P) 4 q 3 (kty 4 3) (.int x) = some (mH h (ku2 i q 3 x) l I J nw df P) := m_pi hq h32 (by decide) (by decide) rfl
theorem g4_4 {h : kH} {i : Nat → Nat → Int32} {l : Nat → Nat → Int64} {I : Nat → Nat → Int32} {J : Nat → Nat → Int64} {nw df : Nat} {P : Nat → Nat} {q : Nat} (hq : kd q = (4, 0)) (h32 : 32 ≤ q) : kfld (mH h i l I J nw df P) 4 q 4 = some (.int (i q 4)) := m_fld hq h32 (by decide) (by decide)
theorem p4_4 {h : kH} {i : Nat → Nat → Int32} {l : Nat → Nat → Int64} {I : Nat → Nat → Int32} {J : Nat → Nat → Int64} {nw df : Nat} {P : Nat → Nat} {q : Nat} (hq : kd q = (4, 0)) (h32 : 32 ≤ q) {x : Int32} : kput (mH h i l I J nw df P) 4 q 4 (kty 4 4) (.int x) = some (mH h (ku2 i q 4 x) l I J nw df P) := m_pi hq h32 (by decide) (by decide) rfl
theorem g4_5 {h : kH} {i : Nat → Nat → Int32} {l : Nat → Nat → Int64} {I : Nat → Nat → Int32} {J : Nat → Nat → Int64} {nw df : Nat} {P : Nat → Nat} {q : Nat} (hq : kd q = (4, 0)) (h32 : 32 ≤ q) : kfld (mH h i l I J nw df P) 4 q 5 = some (.int (i q 5)) := m_fld hq h32 (by decide) (by decide)
theorem p4_5 {h : kH} {i : Nat → Nat → Int32} {l : Nat → Nat → Int64} {I : Nat → Nat → Int32} {J : Nat → Nat → Int64} {nw df : Nat} {P : Nat → Nat} {q : Nat} (hq : kd q = (4, 0)) (h32 : 32 ≤ q) {x : Int32} : kput (mH h i l I J nw df P) 4 q 5 (kty 4 5) (.int x) = some (mH h (ku2 i q 5 x) l I J nw df P) := m_pi hq h32 (by decide) (by decide) rfl
theorem g5_0 {h : kH} {i : Nat → Nat → Int32} {l : Nat → Nat → Int64} {I : Nat → Nat → Int32} {J : Nat → Nat → Int64} {nw df : Nat} {P : Nat → Nat} {q : Nat} (hq : kd q = (5, 0)) (h32 : 32 ≤ q) : kfld (mH h i l I J nw df P) 5 q 0 = some (.ref (q + 1)) := m_fld hq h32 (by decide) (by decide)
theorem g5_1 {h : kH} {i : Nat → Nat → Int32} {l : Nat → Nat → Int64} {I : Nat → Nat → Int32} {J : Nat → Nat → Int64} {nw df : Nat} {P : Nat → Nat} {q : Nat} (hq : kd q = (5, 0)) (h32 : 32 ≤ q) : kfld (mH h i l I J nw df P) 5 q 1 = some (.ref (q + 2)) := m_fld hq h32 (by decide) (by decide)
theorem g5_2 {h : kH} {i : Nat → Nat → Int32} {l : Nat → Nat → Int64} {I : Nat → Nat → Int32} {J : Nat → Nat → Int64} {nw df : Nat} {P : Nat → Nat} {q : Nat} (hq : kd q = (5, 0)) (h32 : 32 ≤ q) : kfld (mH h i l I J nw df P) 5 q 2 = some (.int (i q 2)) := m_fld hq h32 (by decide) (by decide)
theorem p5_2 {h : kH} {i : Nat → Nat → Int32} {l : Nat → Nat → Int64} {I : Nat → Nat → Int32} {J : Nat → Nat → Int64} {nw df : Nat} {P : Nat → Nat} {q : Nat} (hq : kd q = (5, 0)) (h32 : 32 ≤ q) {x : Int32} : kput (mH h i l I J nw df P) 5 q 2 (kty 5 2) (.int x) = some (mH h (ku2 i q 2 x) l I J nw df P) := m_pi hq h32 (by decide) (by decide) rfl
theorem g6_0 {h : kH} {i : Nat → Nat → Int32} {l : Nat → Nat → Int64} {I : Nat → Nat → Int32} {J : Nat → Nat → Int64} {nw df : Nat} {P : Nat → Nat} {q : Nat} (hq : kd q = (6, 0)) (h32 : 32 ≤ q) : kfld (mH h i l I J nw df P) 6 q 0 = some (.long (l q 0)) := m_fld hq h32 (by decide) (by decide)
theorem p6_0 {h : kH} {i : Nat → Nat → Int32} {l : Nat → Nat → Int64} {I : Nat → Nat → Int32} {J : Nat → Nat → Int64} {nw df : Nat} {P : Nat → Nat} {q : Nat} (hq : kd q = (6, 0)) (h32 : 32 ≤ q) {x : Int64} : kput (mH h i l I J nw df P) 6 q 0 (kty 6 0) (.long x) = some (mH h i (ku2 l q 0 x) I J nw df P) := m_pl hq h32 (by decide) (by decide) rfl
theorem g6_1 {h : kH} {i : Nat → Nat → Int32} {l : Nat → Nat → Int64} {I : Nat → Nat → Int32} {J : Nat → Nat → Int64} {nw df : Nat} {P : Nat → Nat} {q : Nat} (hq : kd q = (6, 0)) (h32 : 32 ≤ q) : kfld (mH h i l I J nw df P) 6 q 1 = some (.long (l q 1)) := m_fld hq h32 (by decide) (by decide)
theorem p6_1 {h : kH} {i : Nat → Nat → Int32} {l : Nat → Nat → Int64} {I : Nat → Nat → Int32} {J : Nat → Nat → Int64} {nw df : Nat} {P : Nat → Nat} {q : Nat} (hq : kd q = (6, 0)) (h32 : 32 ≤ q) {x : Int64} : kput (mH h i l I J nw df P) 6 q 1 (kty 6 1) (.long x) = some (mH h i (ku2 l q 1 x) I J nw df P) := m_pl hq h32 (by decide) (by decide) rfl
theorem g7_0 {h : kH} {i : Nat → Nat → Int32} {l : Nat → Nat → Int64} {I : Nat → Nat → Int32} {J : Nat → Nat → Int64} {nw df : Nat} {P : Nat → Nat} {q : Nat} (hq : kd q = (7, 0)) (h32 : 32 ≤ q) : kfld (mH h i l I J nw df P) 7 q 0 = some (.ref (q + 1)) := m_fld hq h32 (by decide) (by decide)
theorem g7_1 {h : kH} {i : Nat → Nat → Int32} {l : Nat → Nat → Int64} {I : Nat → Nat → Int32} {J : Nat → Nat → Int64} {nw df : Nat} {P : Nat → Nat} {q : Nat} (hq : kd q = (7, 0)) (h32 : 32 ≤ q) : kfld (mH h i l I J nw df P) 7 q 1 = some (.ref (q + 2)) := m_fld hq h32 (by decide) (by decide)
theorem g7_2 {h : kH} {i : Nat → Nat → Int32} {l : Nat → Nat → Int64} {I : Nat → Nat → Int32} {J : Nat → Nat → Int64} {nw df : Nat} {P : Nat → Nat} {q : Nat} (hq : kd q = (7, 0)) (h32 : 32 ≤ q) : kfld (mH h i l I J nw df P) 7 q 2 = some (.int (i q 2)) := m_fld hq h32 (by decide) (by decide)
theorem p7_2 {h : kH} {i : Nat → Nat → Int32} {l : Nat → Nat → Int64} {I : Nat → Nat → Int32} {J : Nat → Nat → Int64} {nw df : Nat} {P : Nat → Nat} {q : Nat} (hq : kd q = (7, 0)) (h32 : 32 ≤ q) {x : Int32} : kput (mH h i l I J nw df P) 7 q 2 (kty 7 2) (.int x) = some (mH h (ku2 i q 2 x) l I J nw df P) := m_pi hq h32 (by decide) (by decide) rfl
theorem g8_0 {h : kH} {i : Nat → Nat → Int32} {l : Nat → Nat → Int64} {I : Nat → Nat → Int32} {J : Nat → Nat → Int64} {nw df : Nat} {P : Nat → Nat} {q : Nat} (hq : kd q = (8, 0)) (h32 : 32 ≤ q) : kfld (mH h i l I J nw df P) 8 q 0 = some (.int (i q 0)) := m_fld hq h32 (by decide) (by decide)
theorem p8_0 {h : kH} {i : Nat → Nat → Int32} {l : Nat → Nat → Int64} {I : Nat → Nat → Int32} {J : Nat → Nat → Int64} {nw df : Nat} {P : Nat → Nat} {q : Nat} (hq : kd q = (8, 0)) (h32 : 32 ≤ q) {x : Int32} : kput (mH h i l I J nw df P) 8 q 0 (kty 8 0) (.int x) = some (mH h (ku2 i q 0 x) l I J nw df P) := m_pi hq h32 (by decide) (by decide) rfl
theorem g8_1 {h : kH} {i : Nat → Nat → Int32} {l : Nat → Nat → Int64} {I : Nat → Nat → Int32} {J : Nat → Nat → Int64} {nw df : Nat} {P : Nat → Nat} {q : Nat} (hq : kd q = (8, 0)) (h32 : 32 ≤ q) : kfld (mH h i l I J nw df P) 8 q 1 = some (.int (i q 1)) := m_fld hq h32 (by decide) (by decide)
theorem p8_1 {h : kH} {i : Nat → Nat → Int32} {l : Nat → Nat → Int64} {I : Nat → Nat → Int32} {J : Nat → Nat → Int64} {nw df : Nat} {P : Nat → Nat} {q : Nat} (hq : kd q = (8, 0)) (h32 : 32 ≤ q) {x : Int32} : kput (mH h i l I J nw df P) 8 q 1 (kty 8 1) (.int x) = some (mH h (ku2 i q 1 x) l I J nw df P) := m_pi hq h32 (by decide) (by decide) rfl
theorem g8_2 {h : kH} {i : Nat → Nat → Int32} {l : Nat → Nat → Int64} {I : Nat → Nat → Int32} {J : Nat → Nat → Int64} {nw df : Nat} {P : Nat → Nat} {q : Nat} (hq : kd q = (8, 0)) (h32 : 32 ≤ q) : kfld (mH h i l I J nw df P) 8 q 2 = some (.int (i q 2)) := m_fld hq h32 (by decide) (by decide)
theorem p8_2 {h : kH} {i : Nat → Nat → Int32} {l : Nat → Nat → Int64} {I : Nat → Nat → Int32} {J : Nat → Nat → Int64} {nw df : Nat} {P : Nat → Nat} {q : Nat} (hq : kd q = (8, 0)) (h32 : 32 ≤ q) {x : Int32} : kput (mH h i l I J nw df P) 8 q 2 (kty 8 2) (.int x) = some (mH h (ku2 i q 2 x) l I J nw df P) := m_pi hq h32 (by decide) (by decide) rfl
theorem g8_3 {h : kH} {i : Nat → Nat → Int32} {l : Nat → Nat → Int64} {I : Nat → Nat → Int32} {J : Nat → Nat → Int64} {nw df : Nat} {P : Nat → Nat} {q : Nat} (hq : kd q = (8, 0)) (h32 : 32 ≤ q) : kfld (mH h i l I J nw df P) 8 q 3 = some (.int (i q 3)) := m_fld hq h32 (by decide) (by decide)
theorem p8_3 {h : kH} {i : Nat → Nat → Int32} {l : Nat → Nat → Int64} {I : Nat → Nat → Int32} {J : Nat → Nat → Int64} {nw df : Nat} {P : Nat → Nat} {q : Nat} (hq : kd q = (8, 0)) (h32 : 32 ≤ q) {x : Int32} : kput (mH h i l I J nw df P) 8 q 3 (kty 8 3) (.int x) = some (mH h (ku2 i q 3 x) l I J nw df P) := m_pi hq h32 (by decide) (by decide) rfl
theorem g8_4 {h : kH} {i : Nat → Nat → Int32} {l : Nat → Nat → Int64} {I : Nat → Nat → Int32} {J : Nat → Nat → Int64} {nw df : Nat} {P : Nat → Nat} {q : Nat} (hq : kd q = (8, 0)) (h32 : 32 ≤ q) : kfld (mH h i l I J nw df P) 8 q 4 = some (.ref (q + 1)) := m_fld hq h32 (by decide) (by decide)
theorem g8_5 {h : kH} {i : Nat → Nat → Int32} {l : Nat → Nat → Int64} {I : Nat → Nat → Int32} {J : Nat → Nat → Int64} {nw df : Nat} {P : Nat → Nat} {q : Nat} (hq : kd q = (8, 0)) (h32 : 32 ≤ q) : kfld (mH h i l I J nw df P) 8 q 5 = some (.ref (q + 2)) := m_fld hq h32 (by decide) (by decide)
theorem g8_6 {h : kH} {i : Nat → Nat → Int32} {l : Nat → Nat → Int64} {I : Nat → Nat → Int32} {J : Nat → Nat → Int64} {nw df : Nat} {P : Nat → Nat} {q : Nat} (hq : kd q = (8, 0)) (h32 : 32 ≤ q) : kfld (mH h i l I J nw df P) 8 q 6 = some (.ref (q + 5)) := m_fld hq h32 (by decide) (by decide)
theorem g8_7 {h : kH} {i : Nat → Nat → Int32} {l : Nat → Nat → Int64} {I : Nat → Nat → Int32} {J : Nat → Nat → Int64} {nw df : Nat} {P : Nat → Nat} {q : Nat} (hq : kd q = (8, 0)) (h32 : 32 ≤ q) : kfld (mH h i l I J nw df P) 8 q 7 = some (.ref (q + 8)) := m_fld hq h32 (by decide) (by decide)
theorem g8_8 {h : kH} {i : Nat → Nat → Int32} {l : Nat → Nat → Int64} {I : Nat → Nat → Int32} {J : Nat → Nat → Int64} {nw df : Nat} {P : Nat → Nat} {q : Nat} (hq : kd q = (8, 0)) (h32 : 32 ≤ q) : kfld (mH h i l I J nw df P) 8 q 8 = some (.ref (q + 11)) := m_fld hq h32 (by decide) (by decide)
theorem g9_0 {h : kH} {i : Nat → Nat → Int32} {l : Nat → Nat → Int64} {I : Nat → Nat → Int32} {J : Nat → Nat → Int64} {nw df : Nat} {P : Nat → Nat} {q : Nat} (hq : kd q = (9, 0)) (h32 : 32 ≤ q) : kfld (mH h i l I J nw df P) 9 q 0 = some (.ref (q + 1)) := m_fld hq h32 (by decide) (by decide)
theorem g9_1 {h : kH} {i : Nat → Nat → Int32} {l : Nat → Nat → Int64} {I : Nat → Nat → Int32} {J : Nat → Nat → Int64} {nw df : Nat} {P : Nat → Nat} {q : Nat} (hq : kd q = (9, 0)) (h32 : 32 ≤ q) : kfld (mH h i l I J nw df P) 9 q 1 = some (.ref (q + 2)) := m_fld hq h32 (by decide) (by decide)
theorem g9_2 {h : kH} {i : Nat → Nat → Int32} {l : Nat → Nat → Int64} {I : Nat → Nat → Int32} {J : Nat → Nat → Int64} {nw df : Nat} {P : Nat → Nat} {q : Nat} (hq : kd q = (9, 0)) (h32 : 32 ≤ q) : kfld (mH h i l I J nw df P) 9 q 2 = some (.int (i q 2)) := m_fld hq h32 (by decide) (by decide)
theorem p9_2 {h : kH} {i : Nat → Nat → Int32} {l : Nat → Nat → Int64} {I : Nat → Nat → Int32} {J : Nat → Nat → Int64} {nw df : Nat} {P : Nat → Nat} {q : Nat} (hq : kd q = (9, 0)) (h32 : 32 ≤ q) {x : Int32} : kput (mH h i l I J nw df P) 9 q 2 (kty 9 2) (.int x) = some (mH h (ku2 i q 2 x) l I J nw df P) := m_pi hq h32 (by decide) (by decide) rfl
theorem g10_0 {h : kH} {i : Nat → Nat → Int32} {l : Nat → Nat → Int64} {I : Nat → Nat → Int32} {J : Nat → Nat → Int64} {nw df : Nat} {P : Nat → Nat} {q : Nat} (hq : kd q = (10, 0)) (h32 : 32 ≤ q) : kfld (mH h i l I J nw df P) 10 q 0 = some (.ref (q + 1)) := m_fld hq h32 (by decide) (by decide)
theorem g10_1 {h : kH} {i : Nat → Nat → Int32} {l : Nat → Nat → Int64} {I : Nat → Nat → Int32} {J : Nat → Nat → Int64} {nw df : Nat} {P : Nat → Nat} {q : Nat} (hq : kd q = (10, 0)) (h32 : 32 ≤ q) : kfld (mH h i l I J nw df P) 10 q 1 = some (.int (i q 1)) := m_fld hq h32 (by decide) (by decide)
theorem p10_1 {h : kH} {i : Nat → Nat → Int32} {l : Nat → Nat → Int64} {I : Nat → Nat → Int32} {J : Nat → Nat → Int64} {nw df : Nat} {P : Nat → Nat} {q : Nat} (hq : kd q = (10, 0)) (h32 : 32 ≤ q) {x : Int32} : kput (mH h i l I J nw df P) 10 q 1 (kty 10 1) (.int x) = some (mH h (ku2 i q 1 x) l I J nw df P) := m_pi hq h32 (by decide) (by decide) rfl
theorem g10_2 {h : kH} {i : Nat → Nat → Int32} {l : Nat → Nat → Int64} {I : Nat → Nat → Int32} {J : Nat → Nat → Int64} {nw df : Nat} {P : Nat → Nat} {q : Nat} (hq : kd q = (10, 0)) (h32 : 32 ≤ q) : kfld (mH h i l I J nw df P) 10 q 2 = some (.int (i q 2)) := m_fld hq h32 (by decide) (by decide)
theorem p10_2 {h : kH} {i : Nat → Nat → Int32} {l : Nat → Nat → Int64} {I : Nat → Nat → Int32} {J : Nat → Nat → Int64} {nw df : Nat} {P : Nat → Nat} {q : Nat} (hq : kd q = (10, 0)) (h32 : 32 ≤ q) {x : Int32} : kput (mH h i l I J nw df P) 10 q 2 (kty 10 2) (.int x) = some (mH h (ku2 i q 2 x) l I J nw df P) := m_pi hq h32 (by decide) (by decide) rfl
theorem g10_3 {h : kH} {i : Nat → Nat → Int32} {l : Nat → Nat → Int64} {I : Nat → Nat → Int32} {J : Nat → Nat → Int64} {nw df : Nat} {P : Nat → Nat} {q : Nat} (hq : kd q = (10, 0)) (h32 : 32 ≤ q) : kfld (mH h i l I J nw df P) 10 q 3 = some (.int (i q 3)) := m_fld hq h32 (by decide) (by decide)
theorem p10_3 {h : kH} {i : Nat → Nat → Int32} {l : Nat → Nat → Int64} {I : Nat → Nat → Int32} {J : Nat → Nat → Int64} {nw df : Nat} {P : Nat → Nat} {q : Nat} (hq : kd q = (10, 0)) (h32 : 32 ≤ q) {x : Int32} : kput (mH h i l I J nw df P) 10 q 3 (kty 10 3) (.int x) = some (mH h (ku2 i q 3 x) l I J nw df P) := m_pi hq h32 (by decide) (by decide) rfl
theorem g10_4 {h : kH} {i : Nat → Nat → Int32} {l : Nat → Nat → Int64} {I : Nat → Nat → Int32} {J : Nat → Nat → Int64} {nw df : Nat} {P : Nat → Nat} {q : Nat} (hq : kd q = (10, 0)) (h32 : 32 ≤ q) : kfld (mH h i l I J nw df P) 10 q 4 = some (.int (i q 4)) := m_fld hq h32 (by decide) (by decide)
theorem p10_4 {h : kH} {i : Nat → Nat → Int32} {l : Nat → Nat → Int64} {I : Nat → Nat → Int32} {J : Nat → Nat → Int64} {nw df : Nat} {P : Nat → Nat} {q : Nat} (hq : kd q = (10, 0)) (h32 : 32 ≤ q) {x : Int32} : kput (mH h i l I J nw df P) 10 q 4 (kty 10 4) (.int x) = some (mH h (ku2 i q 4 x) l I J nw df P) := m_pi hq h32 (by decide) (by decide) rfl
theorem g10_5 {h : kH} {i : Nat → Nat → Int32} {l : Nat → Nat → Int64} {I : Nat → Nat → Int32} {J : Nat → Nat → Int64} {nw df : Nat} {P : Nat → Nat} {q : Nat} (hq : kd q = (10, 0)) (h32 : 32 ≤ q) : kfld (mH h i l I J nw df P) 10 q 5 = some (.ref (q + 2)) := m_fld hq h32 (by decide) (by decide)
theorem g10_6 {h : kH} {i : Nat → Nat → Int32} {l : Nat → Nat → Int64} {I : Nat → Nat → Int32} {J : Nat → Nat → Int64} {nw df : Nat} {P : Nat → Nat} {q : Nat} (hq : kd q = (10, 0)) (h32 : 32 ≤ q) : kfld (mH h i l I J nw df P) 10 q 6 = some (.ref (q + 3)) := m_fld hq h32 (by decide) (by decide)
theorem g11_0 {h : kH} {i : Nat → Nat → Int32} {l : Nat → Nat → Int64} {I : Nat → Nat → Int32} {J : Nat → Nat → Int64} {nw df : Nat} {P : Nat → Nat} {q : Nat} (hq : kd q = (11, 0)) (h32 : 32 ≤ q) : kfld (mH h i l I J nw df P) 11 q 0 = some (.ref (q + 1)) := m_fld hq h32 (by decide) (by decide)
theorem g11_1 {h : kH} {i : Nat → Nat → Int32} {l : Nat → Nat → Int64} {I : Nat → Nat → Int32} {J : Nat → Nat → Int64} {nw df : Nat} {P : Nat → Nat} {q : Nat} (hq : kd q = (11, 0)) (h32 : 32 ≤ q) : kfld (mH h i l I J nw df P) 11 q 1 = some (.ref (q + 2)) := m_fld hq h32 (by decide) (by decide)
theorem g11_2 {h : kH} {i : Nat → Nat → Int32} {l : Nat → Nat → Int64} {I : Nat → Nat → Int32} {J : Nat → Nat → Int64} {nw df : Nat} {P : Nat → Nat} {q : Nat} (hq : kd q = (11, 0)) (h32 : 32 ≤ q) : kfld (mH h i l I J nw df P) 11 q 2 = some (.ref (q + 3)) := m_fld hq h32 (by decide) (by decide)
theorem g11_3 {h : kH} {i : Nat → Nat → Int32} {l : Nat → Nat → Int64} {I : Nat → Nat → Int32} {J : Nat → Nat → Int64} {nw df : Nat} {P : Nat → Nat} {q : Nat} (hq : kd q = (11, 0)) (h32 : 32 ≤ q) : kfld (mH h i l I J nw df P) 11 q 3 = some (.ref (q + 4)) := m_fld hq h32 (by decide) (by decide)
theorem g11_4 {h : kH} {i : Nat → Nat → Int32} {l : Nat → Nat → Int64} {I : Nat → Nat → Int32} {J : Nat → Nat → Int64} {nw df : Nat} {P : Nat → Nat} {q : Nat} (hq : kd q = (11, 0)) (h32 : 32 ≤ q) : kfld (mH h i l I J nw df P) 11 q 4 = some (.int (i q 4)) := m_fld hq h32 (by decide) (by decide)
theorem p11_4 {h : kH} {i : Nat → Nat → Int32} {l : Nat → Nat → Int64} {I : Nat → Nat → Int32} {J : Nat → Nat → Int64} {nw df : Nat} {P : Nat → Nat} {q : Nat} (hq : kd q = (11, 0)) (h32 : 32 ≤ q) {x : Int32} (hx : x = 0 ∨ x = 1) : kput (mH h i l I J nw df P) 11 q 4 (kty 11 4) (.int x) = some (mH h (ku2 i q 4 x) l I J nw df P) := m_pz hq h32 (by decide) (by decide) rfl hx
theorem g11_5 {h : kH} {i : Nat → Nat → Int32} {l : Nat → Nat → Int64} {I : Nat → Nat → Int32} {J : Nat → Nat → Int64} {nw df : Nat} {P : Nat → Nat} {q : Nat} (hq : kd q = (11, 0)) (h32 : 32 ≤ q) : kfld (mH h i l I J nw df P) 11 q 5 = some (.int (i q 5)) := m_fld hq h32 (by decide) (by decide)
theorem p11_5 {h : kH} {i : Nat → Nat → Int32} {l : Nat → Nat → Int64} {I : Nat → Nat → Int32} {J : Nat → Nat → Int64} {nw df : Nat} {P : Nat → Nat} {q : Nat} (hq : kd q = (11, 0)) (h32 : 32 ≤ q) {x : Int32} : kput (mH h i l I J nw df P) 11 q 5 (kty 11 5) (.int x) = some (mH h (ku2 i q 5 x) l I J nw df P) := m_pi hq h32 (by decide) (by decide) rfl
theorem g11_6 {h : kH} {i : Nat → Nat → Int32} {l : Nat → Nat → Int64} {I : Nat → Nat → Int32} {J : Nat → Nat → Int64} {nw df : Nat} {P : Nat → Nat} {q : Nat} (hq : kd q = (11, 0)) (h32 : 32 ≤ q) : kfld (mH h i l I J nw df P) 11 q 6 = some (.int (i q 6)) := m_fld hq h32 (by decide) (by decide)
theorem p11_6 {h : kH} {i : Nat → Nat → Int32} {l : Nat → Nat → Int64} {I : Nat → Nat → Int32} {J : Nat → Nat → Int64} {nw df : Nat} {P : Nat → Nat} {q : Nat} (hq : kd q = (11, 0)) (h32 : 32 ≤ q) {x : Int32} : kput (mH h i l I J nw df P) 11 q 6 (kty 11 6) (.int x) = some (mH h (ku2 i q 6 x) l I J nw df P) := m_pi hq h32 (by decide) (by decide) rfl
theorem g11_7 {h : kH} {i : Nat → Nat → Int32} {l : Nat → Nat → Int64} {I : Nat → Nat → Int32} {J : Nat → Nat → Int64} {nw df : Nat} {P : Nat → Nat} {q : Nat} (hq : kd q = (11, 0)) (h32 : 32 ≤ q) : kfld (mH h i l I J nw df P) 11 q 7 = some (.ref (q + 5)) := m_fld hq h32 (by decide) (by decide)
theorem g12_0 {h : kH} {i : Nat → Nat → Int32} {l : Nat → Nat → Int64} {I : Nat → Nat → Int32} {J : Nat → Nat → Int64} {nw df : Nat} {P : Nat → Nat} : kfld (mH h i l I J nw df P) 12 32 0 = some (.ref 33) := m_fld rfl (by omega) (by decide) (by decide)
theorem g12_1 {h : kH} {i : Nat → Nat → Int32} {l : Nat → Nat → Int64} {I : Nat → Nat → Int32} {J : Nat → Nat → Int64} {nw df : Nat} {P : Nat → Nat} : kfld (mH h i l I J nw df P) 12 32 1 = some (.ref nw) := m_fld rfl (by omega) (by decide) (by decide)
theorem g12_2 {h : kH} {i : Nat → Nat → Int32} {l : Nat → Nat → Int64} {I : Nat → Nat → Int32} {J : Nat → Nat → Int64} {nw df : Nat} {P : Nat → Nat} : kfld (mH h i l I J nw df P) 12 32 2 = some (.ref df) := m_fld rfl (by omega) (by decide) (by decide)
theorem g12_3 {h : kH} {i : Nat → Nat → Int32} {l : Nat → Nat → Int64} {I : Nat → Nat → Int32} {J : Nat → Nat → Int64} {nw df : Nat} {P : Nat → Nat} : kfld (mH h i l I J nw df P) 12 32 3 = some (.ref 65) := m_fld rfl (by omega) (by decide) (by decide)
theorem g12_4 {h : kH} {i : Nat → Nat → Int32} {l : Nat → Nat → Int64} {I : Nat → Nat → Int32} {J : Nat → Nat → Int64} {nw df : Nat} {P : Nat → Nat} : kfld (mH h i l I J nw df P) 12 32 4 = some (.int (i 32 4)) := m_fld rfl (by omega) (by decide) (by decide)
theorem p12_4 {h : kH} {i : Nat → Nat → Int32} {l : Nat → Nat → Int64} {I : Nat → Nat → Int32} {J : Nat → Nat → Int64} {nw df : Nat} {P : Nat → Nat} {x : Int32} : kput (mH h i l I J nw df P) 12 32 4 (kty 12 4) (.int x) = some (mH h (ku2 i 32 4 x) l I J nw df P) := m_pi rfl (by omega) (by decide) (by decide) rfl
theorem g12_5 {h : kH} {i : Nat → Nat → Int32} {l : Nat → Nat → Int64} {I : Nat → Nat → Int32} {J : Nat → Nat → Int64} {nw df : Nat} {P : Nat → Nat} : kfld (mH h i l I J nw df P) 12 32 5 = some (.int (i 32 5)) := m_fld rfl (by omega) (by decide) (by decide)
theorem p12_5 {h : kH} {i : Nat → Nat → Int32} {l : Nat → Nat → Int64} {I : Nat → Nat → Int32} {J : Nat → Nat → Int64} {nw df : Nat} {P : Nat → Nat} {x : Int32} : kput (mH h i l I J nw df P) 12 32 5 (kty 12 5) (.int x) = some (mH h (ku2 i 32 5 x) l I J nw df P) := m_pi rfl (by omega) (by decide) (by decide) rfl
theorem g12_6 {h : kH} {i : Nat → Nat → Int32} {l : Nat → Nat → Int64} {I : Nat → Nat → Int32} {J : Nat → Nat → Int64} {nw df : Nat} {P : Nat → Nat} : kfld (mH h i l I J nw df P) 12 32 6 = some (.ref 66) := m_fld rfl (by omega) (by decide) (by decide)
theorem g12_7 {h : kH} {i : Nat → Nat → Int32} {l : Nat → Nat → Int64} {I : Nat → Nat → Int32} {J : Nat → Nat → Int64} {nw df : Nat} {P : Nat → Nat} : kfld (mH h i l I J nw df P) 12 32 7 = some (.ref 69) := m_fld rfl (by omega) (by decide) (by decide)
theorem g12_8 {h : kH} {i : Nat → Nat → Int32} {l : Nat → Nat → Int64} {I : Nat → Nat → Int32} {J : Nat → Nat → Int64} {nw df : Nat} {P : Nat → Nat} : kfld (mH h i l I J nw df P) 12 32 8 = some (.ref 72) := m_fld rfl (by omega) (by decide) (by decide)
theorem g12_9 {h : kH} {i : Nat → Nat → Int32} {l : Nat → Nat → Int64} {I : Nat → Nat → Int32} {J : Nat → Nat → Int64} {nw df : Nat} {P : Nat → Nat} : kfld (mH h i l I J nw df P) 12 32 9 = some (.ref 73) := m_fld rfl (by omega) (by decide) (by decide)
theorem g12_10 {h : kH} {i : Nat → Nat → Int32} {l : Nat → Nat → Int64} {I : Nat → Nat → Int32} {J : Nat → Nat → Int64} {nw df : Nat} {P : Nat → Nat} : kfld (mH h i l I J nw df P) 12 32 10 = some (.ref 74) := m_fld rfl (by omega) (by decide) (by decide)
theorem g12_11 {h : kH} {i : Nat → Nat → Int32} {l : Nat → Nat → Int64} {I : Nat → Nat → Int32} {J : Nat → Nat → Int64} {nw df : Nat} {P : Nat → Nat} : kfld (mH h i l I J nw df P) 12 32 11 = some (.ref 80) := m_fld rfl (by omega) (by decide) (by decide)
theorem g12_12 {h : kH} {i : Nat → Nat → Int32} {l : Nat → Nat → Int64} {I : Nat → Nat → Int32} {J : Nat → Nat → Int64} {nw df : Nat} {P : Nat → Nat} : kfld (mH h i l I J nw df P) 12 32 12 = some (.ref 85) := m_fld rfl (by omega) (by decide) (by decide)
theorem g12_13 {h : kH} {i : Nat → Nat → Int32} {l : Nat → Nat → Int64} {I : Nat → Nat → Int32} {J : Nat → Nat → Int64} {nw df : Nat} {P : Nat → Nat} : kfld (mH h i l I J nw df P) 12 32 13 = some (.ref 88) := m_fld rfl (by omega) (by decide) (by decide)
theorem g12_14 {h : kH} {i : Nat → Nat → Int32} {l : Nat → Nat → Int64} {I : Nat → Nat → Int32} {J : Nat → Nat → Int64} {nw df : Nat} {P : Nat → Nat} : kfld (mH h i l I J nw df P) 12 32 14 = some (.ref 91) := m_fld rfl (by omega) (by decide) (by decide)
theorem g12_15 {h : kH} {i : Nat → Nat → Int32} {l : Nat → Nat → Int64} {I : Nat → Nat → Int32} {J : Nat → Nat → Int64} {nw df : Nat} {P : Nat → Nat} : kfld (mH h i l I J nw df P) 12 32 15 = some (.ref 97) := m_fld rfl (by omega) (by decide) (by decide)
theorem g12_16 {h : kH} {i : Nat → Nat → Int32} {l : Nat → Nat → Int64} {I : Nat → Nat → Int32} {J : Nat → Nat → Int64} {nw df : Nat} {P : Nat → Nat} : kfld (mH h i l I J nw df P) 12 32 16 = some (.ref 103) := m_fld rfl (by omega) (by decide) (by decide)
theorem g12_17 {h : kH} {i : Nat → Nat → Int32} {l : Nat → Nat → Int64} {I : Nat → Nat → Int32} {J : Nat → Nat → Int64} {nw df : Nat} {P : Nat → Nat} : kfld (mH h i l I J nw df P) 12 32 17 = some (.ref 104) := m_fld rfl (by omega) (by decide) (by decide)
theorem g13_0 {h : kH} {i : Nat → Nat → Int32} {l : Nat → Nat → Int64} {I : Nat → Nat → Int32} {J : Nat → Nat → Int64} {nw df : Nat} {P : Nat → Nat} : kfld (mH h i l I J nw df P) 13 217 0 = some (.ref 218) := m_fld rfl (by omega) (by decide) (by decide)
theorem g13_1 {h : kH} {i : Nat → Nat → Int32} {l : Nat → Nat → Int64} {I : Nat → Nat → Int32} {J : Nat → Nat → Int64} {nw df : Nat} {P : Nat → Nat} : kfld (mH h i l I J nw df P) 13 217 1 = some (.ref 219) := m_fld rfl (by omega) (by decide) (by decide)
theorem g13_2 {h : kH} {i : Nat → Nat → Int32} {l : Nat → Nat → Int64} {I : Nat → Nat → Int32} {J : Nat → Nat → Int64} {nw df : Nat} {P : Nat → Nat} : kfld (mH h i l I J nw df P) 13 217 2 = some (.ref 220) := m_fld rfl (by omega) (by decide) (by decide)
theorem g13_3 {h : kH} {i : Nat → Nat → Int32} {l : Nat → Nat → Int64} {I : Nat → Nat → Int32} {J : Nat → Nat → Int64} {nw df : Nat} {P : Nat → Nat} : kfld (mH h i l I J nw df P) 13 217 3 = some (.int (i 217 3)) := m_fld rfl (by omega) (by decide) (by decide)
theorem p13_3 {h : kH} {i : Nat → Nat → Int32} {l : Nat → Nat → Int64} {I : Nat → Nat → Int32} {J : Nat → Nat → Int64} {nw df : Nat} {P : Nat → Nat} {x : Int32} : kput (mH h i l I J nw df P) 13 217 3 (kty 13 3) (.int x) = some (mH h (ku2 i 217 3 x) l I J nw df P) := m_pi rfl (by omega) (by decide) (by decide) rfl
theorem g13_4 {h : kH} {i : Nat → Nat → Int32} {l : Nat → Nat → Int64} {I : Nat → Nat → Int32} {J : Nat → Nat → Int64} {nw df : Nat} {P : Nat → Nat} : kfld (mH h i l I J nw df P) 13 217 4 = some (.ref 221) := m_fld rfl (by omega) (by decide) (by decide)
theorem g13_5 {h : kH} {i : Nat → Nat → Int32} {l : Nat → Nat → Int64} {I : Nat → Nat → Int32} {J : Nat → Nat → Int64} {nw df : Nat} {P : Nat → Nat} : kfld (mH h i l I J nw df P) 13 217 5 = some (.int (i 217 5)) := m_fld rfl (by omega) (by decide) (by decide)
theorem p13_5 {h : kH} {i : Nat → Nat → Int32} {l : Nat → Nat → Int64} {I : Nat → Nat → Int32} {J : Nat → Nat → Int64} {nw df : Nat} {P : Nat → Nat} {x : Int32} : kput (mH h i l I J nw df P) 13 217 5 (kty 13 5) (.int x) = some (mH h (ku2 i 217 5 x) l I J nw df P) := m_pi rfl (by omega) (by decide) (by decide) rfl
theorem g13_6 {h : kH} {i : Nat → Nat → Int32} {l : Nat → Nat → Int64} {I : Nat → Nat → Int32} {J : Nat → Nat → Int64} {nw df : Nat} {P : Nat → Nat} : kfld (mH h i l I J nw df P) 13 217 6 = some (.int (i 217 6)) := m_fld rfl (by omega) (by decide) (by decide)
theorem p13_6 {h : kH} {i : Nat → Nat → Int32} {l : Nat → Nat → Int64} {I : Nat → Nat → Int32} {J : Nat → Nat → Int64} {nw df : Nat} {P : Nat → Nat} {x : Int32} : kput (mH h i l I J nw df P) 13 217 6 (kty 13 6) (.int x) = some (mH h (ku2 i 217 6 x) l I J nw df P) := m_pi rfl (by omega) (by decide) (by decide) rfl
theorem g13_7 {h : kH} {i : Nat → Nat → Int32} {l : Nat → Nat → Int64} {I : Nat → Nat → Int32} {J : Nat → Nat → Int64} {nw df : Nat} {P : Nat → Nat} : kfld (mH h i l I J nw df P) 13 217 7 = some (.int (i 217 7)) := m_fld rfl (by omega) (by decide) (by decide)
theorem p13_7 {h : kH} {i : Nat → Nat → Int32} {l : Nat → Nat → Int64} {I : Nat → Nat → Int32} {J : Nat → Nat → Int64} {nw df : Nat} {P : Nat → Nat} {x : Int32} : kput (mH h i l I J nw df P) 13 217 7 (kty 13 7) (.int x) = some (mH h (ku2 i 217 7 x) l I J nw df P) := m_pi rfl (by omega) (by decide) (by decide) rfl
theorem g13_8 {h : kH} {i : Nat → Nat → Int32} {l : Nat → Nat → Int64} {I : Nat → Nat → Int32} {J : Nat → Nat → Int64} {nw df : Nat} {P : Nat → Nat} : kfld (mH h i l I J nw df P) 13 217 8 = some (.int (i 217 8)) := m_fld rfl (by omega) (by decide) (by decide)
theorem p13_8 {h : kH} {i : Nat → Nat → Int32} {l : Nat → Nat → Int64} {I : Nat → Nat → Int32} {J : Nat → Nat → Int64} {nw df : Nat} {P : Nat → Nat} {x : Int32} : kput (mH h i l I J nw df P) 13 217 8 (kty 13 8) (.int x) = some (mH h (ku2 i 217 8 x) l I J nw df P) := m_pi rfl (by omega) (by decide) (by decide) rfl
theorem g13_9 {h : kH} {i : Nat → Nat → Int32} {l : Nat → Nat → Int64} {I : Nat → Nat → Int32} {J : Nat → Nat → Int64} {nw df : Nat} {P : Nat → Nat} : kfld (mH h i l I J nw df P) 13 217 9 = some (.int (i 217 9)) := m_fld rfl (by omega) (by decide) (by decide)
theorem p13_9 {h : kH} {i : Nat → Nat → Int32} {l : Nat → Nat → Int64} {I : Nat → Nat → Int32} {J : Nat → Nat → Int64} {nw df : Nat} {P : Nat → Nat} {x : Int32} : kput (mH h i l I J nw df P) 13 217 9 (kty 13 9) (.int x) = some (mH h (ku2 i 217 9 x) l I J nw df P) := m_pi rfl (by omega) (by decide) (by decide) rfl
theorem g13_10 {h : kH} {i : Nat → Nat → Int32} {l : Nat → Nat → Int64} {I : Nat → Nat → Int32} {J : Nat → Nat → Int64} {nw df : Nat} {P : Nat → Nat} : kfld (mH h i l I J nw df P) 13 217 10 = some (.int (i 217 10)) := m_fld rfl (by omega) (by decide) (by decide)
theorem p13_10 {h : kH} {i : Nat → Nat → Int32} {l : Nat → Nat → Int64} {I : Nat → Nat → Int32} {J : Nat → Nat → Int64} {nw df : Nat} {P : Nat → Nat} {x : Int32} : kput (mH h i l I J nw df P) 13 217 10 (kty 13 10) (.int x) = some (mH h (ku2 i 217 10 x) l I J nw df P) := m_pi rfl (by omega) (by decide) (by decide) rfl
theorem g13_11 {h : kH} {i : Nat → Nat → Int32} {l : Nat → Nat → Int64} {I : Nat → Nat → Int32} {J : Nat → Nat → Int64} {nw df : Nat} {P : Nat → Nat} : kfld (mH h i l I J nw df P) 13 217 11 = some (.ref 222) := m_fld rfl (by omega) (by decide) (by decide)
theorem g13_12 {h : kH} {i : Nat → Nat → Int32} {l : Nat → Nat → Int64} {I : Nat → Nat → Int32} {J : Nat → Nat → Int64} {nw df : Nat} {P : Nat → Nat} : kfld (mH h i l I J nw df P) 13 217 12 = some (.int (i 217 12)) := m_fld rfl (by omega) (by decide) (by decide)
theorem p13_12 {h : kH} {i : Nat → Nat → Int32} {l : Nat → Nat → Int64} {I : Nat → Nat → Int32} {J : Nat → Nat → Int64} {nw df : Nat} {P : Nat → Nat} {x : Int32} : kput (mH h i l I J nw df P) 13 217 12 (kty 13 12) (.int x) = some (mH h (ku2 i 217 12 x) l I J nw df P) := m_pi rfl (by omega) (by decide) (by decide) rfl
theorem g13_13 {h : kH} {i : Nat → Nat → Int32} {l : Nat → Nat → Int64} {I : Nat → Nat → Int32} {J : Nat → Nat → Int64} {nw df : Nat} {P : Nat → Nat} : kfld (mH h i l I J nw df P) 13 217 13 = some (.long (l 217 13)) := m_fld rfl (by omega) (by decide) (by decide)
theorem p13_13 {h : kH} {i : Nat → Nat → Int32} {l : Nat → Nat → Int64} {I : Nat → Nat → Int32} {J : Nat → Nat → Int64} {nw df : Nat} {P : Nat → Nat} {x : Int64} : kput (mH h i l I J nw df P) 13 217 13 (kty 13 13) (.long x) = some (mH h i (ku2 l 217 13 x) I J nw df P) := m_pl rfl (by omega) (by decide) (by decide) rfl
theorem g13_14 {h : kH} {i : Nat → Nat → Int32} {l : Nat → Nat → Int64} {I : Nat → Nat → Int32} {J : Nat → Nat → Int64} {nw df : Nat} {P : Nat → Nat} : kfld (mH h i l I J nw df P) 13 217 14 = some (.long (l 217 14)) := m_fld rfl (by omega) (by decide) (by decide)
theorem p13_14 {h : kH} {i : Nat → Nat → Int32} {l : Nat → Nat → Int64} {I : Nat → Nat → Int32} {J : Nat → Nat → Int64} {nw df : Nat} {P : Nat → Nat} {x : Int64} : kput (mH h i l I J nw df P) 13 217 14 (kty 13 14) (.long x) = some (mH h i (ku2 l 217 14 x) I J nw df P) := m_pl rfl (by omega) (by decide) (by decide) rfl
theorem g13_15 {h : kH} {i : Nat → Nat → Int32} {l : Nat → Nat → Int64} {I : Nat → Nat → Int32} {J : Nat → Nat → Int64} {nw df : Nat} {P : Nat → Nat} : kfld (mH h i l I J nw df P) 13 217 15 = some (.ref 223) := m_fld rfl (by omega) (by decide) (by decide)
theorem g13_16 {h : kH} {i : Nat → Nat → Int32} {l : Nat → Nat → Int64} {I : Nat → Nat → Int32} {J : Nat → Nat → Int64} {nw df : Nat} {P : Nat → Nat} : kfld (mH h i l I J nw df P) 13 217 16 = some (.ref 224) := m_fld rfl (by omega) (by decide) (by decide)
theorem g13_17 {h : kH} {i : Nat → Nat → Int32} {l : Nat → Nat → Int64} {I : Nat → Nat → Int32} {J : Nat → Nat → Int64} {nw df : Nat} {P : Nat → Nat} : kfld (mH h i l I J nw df P) 13 217 17 = some (.ref 225) := m_fld rfl (by omega) (by decide) (by decide)
theorem g13_18 {h : kH} {i : Nat → Nat → Int32} {l : Nat → Nat → Int64} {I : Nat → Nat → Int32} {J : Nat → Nat → Int64} {nw df : Nat} {P : Nat → Nat} : kfld (mH h i l I J nw df P) 13 217 18 = some (.int (i 217 18)) := m_fld rfl (by omega) (by decide) (by decide)
theorem p13_18 {h : kH} {i : Nat → Nat → Int32} {l : Nat → Nat → Int64} {I : Nat → Nat → Int32} {J : Nat → Nat → Int64} {nw df : Nat} {P : Nat → Nat} {x : Int32} : kput (mH h i l I J nw df P) 13 217 18 (kty 13 18) (.int x) = some (mH h (ku2 i 217 18 x) l I J nw df P) := m_pi rfl (by omega) (by decide) (by decide) rfl
theorem g13_19 {h : kH} {i : Nat → Nat → Int32} {l : Nat → Nat → Int64} {I : Nat → Nat → Int32} {J : Nat → Nat → Int64} {nw df : Nat} {P : Nat → Nat} : kfld (mH h i l I J nw df P) 13 217 19 = some (.ref 226) := m_fld rfl (by omega) (by decide) (by decide)
theorem g13_20 {h : kH} {i : Nat → Nat → Int32} {l : Nat → Nat → Int64} {I : Nat → Nat → Int32} {J : Nat → Nat → Int64} {nw df : Nat} {P : Nat → Nat} : kfld (mH h i l I J nw df P) 13 217 20 = some (.ref 227) := m_fld rfl (by omega) (by decide) (by decide)
theorem g13_21 {h : kH} {i : Nat → Nat → Int32} {l : Nat → Nat → Int64} {I : Nat → Nat → Int32} {J : Nat → Nat → Int64} {nw df : Nat} {P : Nat → Nat} : kfld (mH h i l I J nw df P) 13 217 21 = some (.ref 228) := m_fld rfl (by omega) (by decide) (by decide)
theorem g13_22 {h : kH} {i : Nat → Nat → Int32} {l : Nat → Nat → Int64} {I : Nat → Nat → Int32} {J : Nat → Nat → Int64} {nw df : Nat} {P : Nat → Nat} : kfld (mH h i l I J nw df P) 13 217 22 = some (.int (i 217 22)) := m_fld rfl (by omega) (by decide) (by decide)
theorem p13_22 {h : kH} {i : Nat → Nat → Int32} {l : Nat → Nat → Int64} {I : Nat → Nat → Int32} {J : Nat → Nat → Int64} {nw df : Nat} {P : Nat → Nat} {x : Int32} : kput (mH h i l I J nw df P) 13 217 22 (kty 13 22) (.int x) = some (mH h (ku2 i 217 22 x) l I J nw df P) := m_pi rfl (by omega) (by decide) (by decide) rfl
theorem g13_23 {h : kH} {i : Nat → Nat → Int32} {l : Nat → Nat → Int64} {I : Nat → Nat → Int32} {J : Nat → Nat → Int64} {nw df : Nat} {P : Nat → Nat} : kfld (mH h i l I J nw df P) 13 217 23 = some (.ref 229) := m_fld rfl (by omega) (by decide) (by decide)
theorem g13_24 {h : kH} {i : Nat → Nat → Int32} {l : Nat → Nat → Int64} {I : Nat → Nat → Int32} {J : Nat → Nat → Int64} {nw df : Nat} {P : Nat → Nat} : kfld (mH h i l I J nw df P) 13 217 24 = some (.ref 230) := m_fld rfl (by omega) (by decide) (by decide)
theorem g13_25 {h : kH} {i : Nat → Nat → Int32} {l : Nat → Nat → Int64} {I : Nat → Nat → Int32} {J : Nat → Nat → Int64} {nw df : Nat} {P : Nat → Nat} : kfld (mH h i l I J nw df P) 13 217 25 = some (.int (i 217 25)) := m_fld rfl (by omega) (by decide) (by decide)
theorem p13_25 {h : kH} {i : Nat → Nat → Int32} {l : Nat → Nat → Int64} {I : Nat → Nat → Int32} {J : Nat → Nat → Int64} {nw df : Nat} {P : Nat → Nat} {x : Int32} : kput (mH h i l I J nw df P) 13 217 25 (kty 13 25) (.int x) = some (mH h (ku2 i 217 25 x) l I J nw df P) := m_pi rfl (by omega) (by decide) (by decide) rfl
theorem g13_26 {h : kH} {i : Nat → Nat → Int32} {l : Nat → Nat → Int64} {I : Nat → Nat → Int32} {J : Nat → Nat → Int64} {nw df : Nat} {P : Nat → Nat} : kfld (mH h i l I J nw df P) 13 217 26 = some (.int (i 217 26)) := m_fld rfl (by omega) (by decide) (by decide)
theorem p13_26 {h : kH} {i : Nat → Nat → Int32} {l : Nat → Nat → Int64} {I : Nat → Nat → Int32} {J : Nat → Nat → Int64} {nw df : Nat} {P : Nat → Nat} {x : Int32} : kput (mH h i l I J nw df P) 13 217 26 (kty 13 26) (.int x) = some (mH h (ku2 i 217 26 x) l I J nw df P) := m_pi rfl (by omega) (by decide) (by decide) rfl
theorem g13_27 {h : kH} {i : Nat → Nat → Int32} {l : Nat → Nat → Int64} {I : Nat → Nat → Int32} {J : Nat → Nat → Int64} {nw df : Nat} {P : Nat → Nat} : kfld (mH h i l I J nw df P) 13 217 27 = some (.int (i 217 27)) := m_fld rfl (by omega) (by decide) (by decide)
theorem p13_27 {h : kH} {i : Nat → Nat → Int32} {l : Nat → Nat → Int64} {I : Nat → Nat → Int32} {J : Nat → Nat → Int64} {nw df : Nat} {P : Nat → Nat} {x : Int32} : kput (mH h i l I J nw df P) 13 217 27 (kty 13 27) (.int x) = some (mH h (ku2 i 217 27 x) l I J nw df P) := m_pi rfl (by omega) (by decide) (by decide) rfl
theorem g13_28 {h : kH} {i : Nat → Nat → Int32} {l : Nat → Nat → Int64} {I : Nat → Nat → Int32} {J : Nat → Nat → Int64} {nw df : Nat} {P : Nat → Nat} : kfld (mH h i l I J nw df P) 13 217 28 = some (.int (i 217 28)) := m_fld rfl (by omega) (by decide) (by decide)
theorem p13_28 {h : kH} {i : Nat → Nat → Int32} {l : Nat → Nat → Int64} {I : Nat → Nat → Int32} {J : Nat → Nat → Int64} {nw df : Nat} {P : Nat → Nat} {x : Int32} : kput (mH h i l I J nw df P) 13 217 28 (kty 13 28) (.int x) = some (mH h (ku2 i 217 28 x) l I J nw df P) := m_pi rfl (by omega) (by decide) (by decide) rfl
theorem g13_29 {h : kH} {i : Nat → Nat → Int32} {l : Nat → Nat → Int64} {I : Nat → Nat → Int32} {J : Nat → Nat → Int64} {nw df : Nat} {P : Nat → Nat} : kfld (mH h i l I J nw df P) 13 217 29 = some (.long (l 217 29)) := m_fld rfl (by omega) (by decide) (by decide)
theorem p13_29 {h : kH} {i : Nat → Nat → Int32} {l : Nat → Nat → Int64} {I : Nat → Nat → Int32} {J : Nat → Nat → Int64} {nw df : Nat} {P : Nat → Nat} {x : Int64} : kput (mH h i l I J nw df P) 13 217 29 (kty 13 29) (.long x) = some (mH h i (ku2 l 217 29 x) I J nw df P) := m_pl rfl (by omega) (by decide) (by decide) rfl
theorem g13_30 {h : kH} {i : Nat → Nat → Int32} {l : Nat → Nat → Int64} {I : Nat → Nat → Int32} {J : Nat → Nat → Int64} {nw df : Nat} {P : Nat → Nat} : kfld (mH h i l I J nw df P) 13 217 30 = some (.long (l 217 30)) := m_fld rfl (by omega) (by decide) (by decide)
theorem p13_30 {h : kH} {i : Nat → Nat → Int32} {l : Nat → Nat → Int64} {I : Nat → Nat → Int32} {J : Nat → Nat → Int64} {nw df : Nat} {P : Nat → Nat} {x : Int64} : kput (mH h i l I J nw df P) 13 217 30 (kty 13 30) (.long x) = some (mH h i (ku2 l 217 30 x) I J nw df P) := m_pl rfl (by omega) (by decide) (by decide) rfl
theorem g13_31 {h : kH} {i : Nat → Nat → Int32} {l : Nat → Nat → Int64} {I : Nat → Nat → Int32} {J : Nat → Nat → Int64} {nw df : Nat} {P : Nat → Nat} : kfld (mH h i l I J nw df P) 13 217 31 = some (.ref 231) := m_fld rfl (by omega) (by decide) (by decide)
theorem g13_32 {h : kH} {i : Nat → Nat → Int32} {l : Nat → Nat → Int64} {I : Nat → Nat → Int32} {J : Nat → Nat → Int64} {nw df : Nat} {P : Nat → Nat} : kfld (mH h i l I J nw df P) 13 217 32 = some (.ref 232) := m_fld rfl (by omega) (by decide) (by decide)
theorem g13_33 {h : kH} {i : Nat → Nat → Int32} {l : Nat → Nat → Int64} {I : Nat → Nat → Int32} {J : Nat → Nat → Int64} {nw df : Nat} {P : Nat → Nat} : kfld (mH h i l I J nw df P) 13 217 33 = some (.ref 233) := m_fld rfl (by omega) (by decide) (by decide)
theorem g13_34 {h : kH} {i : Nat → Nat → Int32} {l : Nat → Nat → Int64} {I : Nat → Nat → Int32} {J : Nat → Nat → Int64} {nw df : Nat} {P : Nat → Nat} : kfld (mH h i l I J nw df P) 13 217 34 = some (.ref 234) := m_fld rfl (by omega) (by decide) (by decide)
theorem g13_35 {h : kH} {i : Nat → Nat → Int32} {l : Nat → Nat → Int64} {I : Nat → Nat → Int32} {J : Nat → Nat → Int64} {nw df : Nat} {P : Nat → Nat} : kfld (mH h i l I J nw df P) 13 217 35 = some (.int (i 217 35)) := m_fld rfl (by omega) (by decide) (by decide)
theorem p13_35 {h : kH} {i : Nat → Nat → Int32} {l : Nat → Nat → Int64} {I : Nat → Nat → Int32} {J : Nat → Nat → Int64} {nw df : Nat} {P : Nat → Nat} {x : Int32} : kput (mH h i l I J nw df P) 13 217 35 (kty 13 35) (.int x) = some (mH h (ku2 i 217 35 x) l I J nw df P) := m_pi rfl (by omega) (by decide) (by decide) rfl
theorem g13_36 {h : kH} {i : Nat → Nat → Int32} {l : Nat → Nat → Int64} {I : Nat → Nat → Int32} {J : Nat → Nat → Int64} {nw df : Nat} {P : Nat → Nat} : kfld (mH h i l I J nw df P) 13 217 36 = some (.int (i 217 36)) := m_fld rfl (by omega) (by decide) (by decide)
theorem p13_36 {h : kH} {i : Nat → Nat → Int32} {l : Nat → Nat → Int64} {I : Nat → Nat → Int32} {J : Nat → Nat → Int64} {nw df : Nat} {P : Nat → Nat} {x : Int32} : kput (mH h i l I J nw df P) 13 217 36 (kty 13 36) (.int x) = some (mH h (ku2 i 217 36 x) l I J nw df P) := m_pi rfl (by omega) (by decide) (by decide) rfl
theorem g13_37 {h : kH} {i : Nat → Nat → Int32} {l : Nat → Nat → Int64} {I : Nat → Nat → Int32} {J : Nat → Nat → Int64} {nw df : Nat} {P : Nat → Nat} : kfld (mH h i l I J nw df P) 13 217 37 = some (.int (i 217 37)) := m_fld rfl (by omega) (by decide) (by decide)
theorem p13_37 {h : kH} {i : Nat → Nat → Int32} {l : Nat → Nat → Int64} {I : Nat → Nat → Int32} {J : Nat → Nat → Int64} {nw df : Nat} {P : Nat → Nat} {x : Int32} : kput (mH h i l I J nw df P) 13 217 37 (kty 13 37) (.int x) = some (mH h (ku2 i 217 37 x) l I J nw df P) := m_pi rfl (by omega) (by decide) (by decide) rfl
theorem g13_38 {h : kH} {i : Nat → Nat → Int32} {l : Nat → Nat → Int64} {I : Nat → Nat → Int32} {J : Nat → Nat → Int64} {nw df : Nat} {P : Nat → Nat} : kfld (mH h i l I J nw df P) 13 217 38 = some (.ref 235) := m_fld rfl (by omega) (by decide) (by decide)
theorem g13_39 {h : kH} {i : Nat → Nat → Int32} {l : Nat → Nat → Int64} {I : Nat → Nat → Int32} {J : Nat → Nat → Int64} {nw df : Nat} {P : Nat → Nat} : kfld (mH h i l I J nw df P) 13 217 39 = some (.ref 236) := m_fld rfl (by omega) (by decide) (by decide)
theorem g13_40 {h : kH} {i : Nat → Nat → Int32} {l : Nat → Nat → Int64} {I : Nat → Nat → Int32} {J : Nat → Nat → Int64} {nw df : Nat} {P : Nat → Nat} : kfld (mH h i l I J nw df P) 13 217 40 = some (.ref 237) := m_fld rfl (by omega) (by decide) (by decide)
theorem g13_41 {h : kH} {i : Nat → Nat → Int32} {l : Nat → Nat → Int64} {I : Nat → Nat → Int32} {J : Nat → Nat → Int64} {nw df : Nat} {P : Nat → Nat} : kfld (mH h i l I J nw df P) 13 217 41 = some (.ref 238) := m_fld rfl (by omega) (by decide) (by decide)
theorem g13_42 {h : kH} {i : Nat → Nat → Int32} {l : Nat → Nat → Int64} {I : Nat → Nat → Int32} {J : Nat → Nat → Int64} {nw df : Nat} {P : Nat → Nat} : kfld (mH h i l I J nw df P) 13 217 42 = some (.ref 239) := m_fld rfl (by omega) (by decide) (by decide)
theorem g13_43 {h : kH} {i : Nat → Nat → Int32} {l : Nat → Nat → Int64} {I : Nat → Nat → Int32} {J : Nat → Nat → Int64} {nw df : Nat} {P : Nat → Nat} : kfld (mH h i l I J nw df P) 13 217 43 = some (.int (i 217 43)) := m_fld rfl (by omega) (by decide) (by decide)
theorem p13_43 {h : kH} {i : Nat → Nat → Int32} {l : Nat → Nat → Int64} {I : Nat → Nat → Int32} {J : Nat → Nat → Int64} {nw df : Nat} {P : Nat → Nat} {x : Int32} : kput (mH h i l I J nw df P) 13 217 43 (kty 13 43) (.int x) = some (mH h (ku2 i 217 43 x) l I J nw df P) := m_pi rfl (by omega) (by decide) (by decide) rfl
theorem g13_44 {h : kH} {i : Nat → Nat → Int32} {l : Nat → Nat → Int64} {I : Nat → Nat → Int32} {J : Nat → Nat → Int64} {nw df : Nat} {P : Nat → Nat} : kfld (mH h i l I J nw df P) 13 217 44 = some (.ref 240) := m_fld rfl (by omega) (by decide) (by decide)
theorem g13_45 {h : kH} {i : Nat → Nat → Int32} {l : Nat → Nat → Int64} {I : Nat → Nat → Int32} {J : Nat → Nat → Int64} {nw df : Nat} {P : Nat → Nat} : kfld (mH h i l I J nw df P) 13 217 45 = some (.int (i 217 45)) := m_fld rfl (by omega) (by decide) (by decide)
theorem p13_45 {h : kH} {i : Nat → Nat → Int32} {l : Nat → Nat → Int64} {I : Nat → Nat → Int32} {J : Nat → Nat → Int64} {nw df : Nat} {P : Nat → Nat} {x : Int32} : kput (mH h i l I J nw df P) 13 217 45 (kty 13 45) (.int x) = some (mH h (ku2 i 217 45 x) l I J nw df P) := m_pi rfl (by omega) (by decide) (by decide) rfl
theorem g13_46 {h : kH} {i : Nat → Nat → Int32} {l : Nat → Nat → Int64} {I : Nat → Nat → Int32} {J : Nat → Nat → Int64} {nw df : Nat} {P : Nat → Nat} : kfld (mH h i l I J nw df P) 13 217 46 = some (.ref 241) := m_fld rfl (by omega) (by decide) (by decide)
theorem g13_47 {h : kH} {i : Nat → Nat → Int32} {l : Nat → Nat → Int64} {I : Nat → Nat → Int32} {J : Nat → Nat → Int64} {nw df : Nat} {P : Nat → Nat} : kfld (mH h i l I J nw df P) 13 217 47 = some (.long (l 217 47)) := m_fld rfl (by omega) (by decide) (by decide)
theorem p13_47 {h : kH} {i : Nat → Nat → Int32} {l : Nat → Nat → Int64} {I : Nat → Nat → Int32} {J : Nat → Nat → Int64} {nw df : Nat} {P : Nat → Nat} {x : Int64} : kput (mH h i l I J nw df P) 13 217 47 (kty 13 47) (.long x) = some (mH h i (ku2 l 217 47 x) I J nw df P) := m_pl rfl (by omega) (by decide) (by decide) rfl
theorem g13_48 {h : kH} {i : Nat → Nat → Int32} {l : Nat → Nat → Int64} {I : Nat → Nat → Int32} {J : Nat → Nat → Int64} {nw df : Nat} {P : Nat → Nat} : kfld (mH h i l I J nw df P) 13 217 48 = some (.long (l 217 48)) := m_fld rfl (by omega) (by decide) (by decide)
theorem p13_48 {h : kH} {i : Nat → Nat → Int32} {l : Nat → Nat → Int64} {I : Nat → Nat → Int32} {J : Nat → Nat → Int64} {nw df : Nat} {P : Nat → Nat} {x : Int64} : kput (mH h i l I J nw df P) 13 217 48 (kty 13 48) (.long x) = some (mH h i (ku2 l 217 48 x) I J nw df P) := m_pl rfl (by omega) (by decide) (by decide) rfl
theorem g13_49 {h : kH} {i : Nat → Nat → Int32} {l : Nat → Nat → Int64} {I : Nat → Nat → Int32} {J : Nat → Nat → Int64} {nw df : Nat} {P : Nat → Nat} : kfld (mH h i l I J nw df P) 13 217 49 = some (.long (l 217 49)) := m_fld rfl (by omega) (by decide) (by decide)
theorem p13_49 {h : kH} {i : Nat → Nat → Int32} {l : Nat → Nat → Int64} {I : Nat → Nat → Int32} {J : Nat → Nat → Int64} {nw df : Nat} {P : Nat → Nat} {x : Int64} : kput (mH h i l I J nw df P) 13 217 49 (kty 13 49) (.long x) = some (mH h i (ku2 l 217 49 x) I J nw df P) := m_pl rfl (by omega) (by decide) (by decide) rfl
theorem g13_50 {h : kH} {i : Nat → Nat → Int32} {l : Nat → Nat → Int64} {I : Nat → Nat → Int32} {J : Nat → Nat → Int64} {nw df : Nat} {P : Nat → Nat} : kfld (mH h i l I J nw df P) 13 217 50 = some (.long (l 217 50)) := m_fld rfl (by omega) (by decide) (by decide)
theorem p13_50 {h : kH} {i : Nat → Nat → Int32} {l : Nat → Nat → Int64} {I : Nat → Nat → Int32} {J : Nat → Nat → Int64} {nw df : Nat} {P : Nat → Nat} {x : Int64} : kput (mH h i l I J nw df P) 13 217 50 (kty 13 50) (.long x) = some (mH h i (ku2 l 217 50 x) I J nw df P) := m_pl rfl (by omega) (by decide) (by decide) rfl
theorem g13_51 {h : kH} {i : Nat → Nat → Int32} {l : Nat → Nat → Int64} {I : Nat → Nat → Int32} {J : Nat → Nat → Int64} {nw df : Nat} {P : Nat → Nat} : kfld (mH h i l I J nw df P) 13 217 51 = some (.long (l 217 51)) := m_fld rfl (by omega) (by decide) (by decide)
theorem p13_51 {h : kH} {i : Nat → Nat → Int32} {l : Nat → Nat → Int64} {I : Nat → Nat → Int32} {J : Nat → Nat → Int64} {nw df : Nat} {P : Nat → Nat} {x : Int64} : kput (mH h i l I J nw df P) 13 217 51 (kty 13 51) (.long x) = some (mH h i (ku2 l 217 51 x) I J nw df P) := m_pl rfl (by omega) (by decide) (by decide) rfl
theorem g13_52 {h : kH} {i : Nat → Nat → Int32} {l : Nat → Nat → Int64} {I : Nat → Nat → Int32} {J : Nat → Nat → Int64} {nw df : Nat} {P : Nat → Nat} : kfld (mH h i l I J nw df P) 13 217 52 = some (.long (l 217 52)) := m_fld rfl (by omega) (by decide) (by decide)
theorem p13_52 {h : kH} {i : Nat → Nat → Int32} {l : Nat → Nat → Int64} {I : Nat → Nat → Int32} {J : Nat → Nat → Int64} {nw df : Nat} {P : Nat → Nat} {x : Int64} : kput (mH h i l I J nw df P) 13 217 52 (kty 13 52) (.long x) = some (mH h i (ku2 l 217 52 x) I J nw df P) := m_pl rfl (by omega) (by decide) (by decide) rfl
theorem g13_53 {h : kH} {i : Nat → Nat → Int32} {l : Nat → Nat → Int64} {I : Nat → Nat → Int32} {J : Nat → Nat → Int64} {nw df : Nat} {P : Nat → Nat} : kfld (mH h i l I J nw df P) 13 217 53 = some (.long (l 217 53)) := m_fld rfl (by omega) (by decide) (by decide)
theorem p13_53 {h : kH} {i : Nat → Nat → Int32} {l : Nat → Nat → Int64} {I : Nat → Nat → Int32} {J : Nat → Nat → Int64} {nw df : Nat} {P : Nat → Nat} {x : Int64} : kput (mH h i l I J nw df P) 13 217 53 (kty 13 53) (.long x) = some (mH h i (ku2 l 217 53 x) I J nw df P) := m_pl rfl (by omega) (by decide) (by decide) rfl
theorem kd_32 : kd 32 = (12, 0) := rfl
theorem kd_33 : kd 33 = (10, 0) := rfl
theorem kd_34 : kd 34 = (20, 240) := rfl
theorem kd_35 : kd 35 = (20, 3) := rfl
theorem kd_36 : kd 36 = (20, 3) := rfl
theorem kd_37 : kd 37 = (8, 0) := rfl
theorem kd_38 : kd 38 = (20, 5) := rfl
theorem kd_39 : kd 39 = (7, 0) := rfl
theorem kd_40 : kd 40 = (20, 10) := rfl
theorem kd_41 : kd 41 = (20, 10) := rfl
theorem kd_42 : kd 42 = (3, 0) := rfl
theorem kd_43 : kd 43 = (20, 200) := rfl
theorem kd_44 : kd 44 = (20, 200) := rfl
theorem kd_45 : kd 45 = (9, 0) := rfl
theorem kd_46 : kd 46 = (20, 10) := rfl
theorem kd_47 : kd 47 = (20, 10) := rfl
theorem kd_48 : kd 48 = (5, 0) := rfl
theorem kd_49 : kd 49 = (20, 20) := rfl
theorem kd_50 : kd 50 = (20, 200) := rfl
theorem kd_51 : kd 51 = (8, 0) := rfl
theorem kd_52 : kd 52 = (20, 5) := rfl
theorem kd_53 : kd 53 = (7, 0) := rfl
theorem kd_54 : kd 54 = (20, 10) := rfl
theorem kd_55 : kd 55 = (20, 10) := rfl
theorem kd_56 : kd 56 = (3, 0) := rfl
theorem kd_57 : kd 57 = (20, 200) := rfl
theorem kd_58 : kd 58 = (20, 200) := rfl
theorem kd_59 : kd 59 = (9, 0) := rfl
theorem kd_60 : kd 60 = (20, 10) := rfl
theorem kd_61 : kd 61 = (20, 10) := rfl
theorem kd_62 : kd 62 = (5, 0) := rfl
theorem kd_63 : kd 63 = (20, 20) := rfl
theorem kd_64 : kd 64 = (20, 200) := rfl
theorem kd_65 : kd 65 = (24, 8) := rfl
theorem kd_66 : kd 66 = (3, 0) := rfl
theorem kd_67 : kd 67 = (20, 200) := rfl
theorem kd_68 : kd 68 = (20, 200) := rfl
theorem kd_69 : kd 69 = (3, 0) := rfl
theorem kd_70 : kd 70 = (20, 200) := rfl
theorem kd_71 : kd 71 = (20, 200) := rfl
theorem kd_72 : kd 72 = (6, 0) := rfl
theorem kd_73 : kd 73 = (6, 0) := rfl
theorem kd_74 : kd 74 = (2, 0) := rfl
theorem kd_75 : kd 75 = (21, 200) := rfl
theorem kd_76 : kd 76 = (21, 200) := rfl
theorem kd_77 : kd 77 = (20, 200) := rfl
theorem kd_78 : kd 78 = (21, 200) := rfl
theorem kd_79 : kd 79 = (21, 200) := rfl
theorem kd_80 : kd 80 = (1, 0) := rfl
theorem kd_81 : kd 81 = (20, 200) := rfl
theorem kd_82 : kd 82 = (20, 200) := rfl
theorem kd_83 : kd 83 = (20, 200) := rfl
theorem kd_84 : kd 84 = (21, 200) := rfl
theorem kd_85 : kd 85 = (4, 0) := rfl
theorem kd_86 : kd 86 = (21, 800) := rfl
theorem kd_87 : kd 87 = (20, 200) := rfl
theorem kd_88 : kd 88 = (4, 0) := rfl
theorem kd_89 : kd 89 = (21, 800) := rfl
theorem kd_90 : kd 90 = (20, 200) := rfl
theorem kd_91 : kd 91 = (11, 0) := rfl
theorem kd_92 : kd 92 = (23, 5) := rfl
theorem kd_93 : kd 93 = (20, 5) := rfl
theorem kd_94 : kd 94 = (20, 5) := rfl
theorem kd_95 : kd 95 = (20, 5) := rfl
theorem kd_96 : kd 96 = (20, 30) := rfl
theorem kd_97 : kd 97 = (11, 0) := rfl
theorem kd_98 : kd 98 = (23, 5) := rfl
theorem kd_99 : kd 99 = (20, 5) := rfl
theorem kd_100 : kd 100 = (20, 5) := rfl
theorem kd_101 : kd 101 = (20, 5) := rfl
theorem kd_102 : kd 102 = (20, 30) := rfl
theorem kd_103 : kd 103 = (20, 8) := rfl
theorem kd_104 : kd 104 = (20, 699) := rfl
theorem kd_217 : kd 217 = (13, 0) := rfl
theorem kd_218 : kd 218 = (20, 676) := rfl
theorem kd_219 : kd 219 = (20, 676) := rfl
theorem kd_220 : kd 220 = (20, 5408) := rfl
theorem kd_221 : kd 221 = (22, 240) := rfl
theorem kd_222 : kd 222 = (20, 20) := rfl
theorem kd_223 : kd 223 = (20, 200) := rfl
theorem kd_224 : kd 224 = (20, 200) := rfl
theorem kd_225 : kd 225 = (20, 4) := rfl
theorem kd_226 : kd 226 = (20, 200) := rfl
theorem kd_227 : kd 227 = (20, 200) := rfl
theorem kd_228 : kd 228 = (21, 200) := rfl
theorem kd_229 : kd 229 = (20, 200) := rfl
theorem kd_230 : kd 230 = (21, 200) := rfl
theorem kd_231 : kd 231 = (23, 200) := rfl
theorem kd_232 : kd 232 = (21, 1600) := rfl
theorem kd_233 : kd 233 = (23, 400) := rfl
theorem kd_234 : kd 234 = (23, 200) := rfl
theorem kd_235 : kd 235 = (20, 8) := rfl
theorem kd_236 : kd 236 = (20, 5) := rfl
theorem kd_237 : kd 237 = (20, 5) := rfl
theorem kd_238 : kd 238 = (20, 30) := rfl
theorem kd_239 : kd 239 = (23, 5) := rfl
theorem kd_240 : kd 240 = (22, 80) := rfl
theorem kd_241 : kd 241 = (22, 25) := rfl
theorem is_32 {h : kH} {i : Nat → Nat → Int32} {l : Nat → Nat → Int64} {I : Nat → Nat → Int32} {J : Nat → Nat → Int64} {nw df : Nat} {P : Nat → Nat} : kis (mH h i l I J nw df P) 12 32 = true := m_is kd_32 (by decide) (by decide)
theorem is_33 {h : kH} {i : Nat → Nat → Int32} {l : Nat → Nat → Int64} {I : Nat → Nat → Int32} {J : Nat → Nat → Int64} {nw df : Nat} {P : Nat → Nat} : kis (mH h i l I J nw df P) 10 33 = true := m_is kd_33 (by decide) (by decide)
theorem ld_34 {h : kH} {i : Nat → Nat → Int32} {l : Nat → Nat → Int64} {I : Nat → Nat → Int32} {J : Nat → Nat → Int64} {nw df : Nat} {P : Nat → Nat} {x : Int32} : kil (mH h i l I J nw df P) 34 x = if kin x 240 then some (I 34 x.toNatClampNeg) else none := m_il kd_34 (by decide)
theorem sd_34 {h : kH} {i : Nat → Nat → Int32} {l : Nat → Nat → Int64} {I : Nat → Nat → Int32} {J : Nat → Nat → Int64} {nw df : Nat} {P : Nat → Nat} {x v : Int32} : kis_ (mH h i l I J nw df P) 34 x v = if kin x 240 then some (mH h i l (va_up I 34 (upd (I 34) x.toNatClampNeg v)) J nw df P) else none := m_is_ kd_34 (by decide)
theorem ln_34 {h : kH} {i : Nat → Nat → Int32} {l : Nat → Nat → Int64} {I : Nat → Nat → Int32} {J : Nat → Nat → Int64} {nw df : Nat} {P : Nat → Nat} {a : Nat} (ha : a < 240) : kil (mH h i l I J nw df P) 34 (nI a) = some (I 34 a) := by rw [ld_34, if_pos (nI_kin ha (by decide)), nI_clamp (by omega)]
theorem sn_34 {h : kH} {i : Nat → Nat → Int32} {l : Nat → Nat → Int64} {I : Nat → Nat → Int32} {J : Nat → Nat → Int64} {nw df : Nat} {P : Nat → Nat} {a : Nat} {v : Int32} (ha : a < 240) : kis_ (mH h i l I J nw df P) 34 (nI a) v = some (mH h i l (va_up I 34 (upd (I 34) a v)) J nw df P) := by rw [sd_34, if_pos (nI_kin ha (by decide)), nI_clamp (by omega)]
theorem ld_35 {h : kH} {i : Nat → Nat → Int32} {l : Nat → Nat → Int64} {I : Nat → Nat → Int32} {J : Nat → Nat → Int64} {nw df : Nat} {P : Nat → Nat} {x : Int32} : kil (mH h i l I J nw df P) 35 x = if kin x 3 then some (I 35 x.toNatClampNeg) else none := m_il kd_35 (by decide)
theorem sd_35 {h : kH} {i : Nat → Nat → Int32} {l : Nat → Nat → Int64} {I : Nat → Nat → Int32} {J : Nat → Nat → Int64} {nw df : Nat} {P : Nat → Nat} {x v : Int32} : kis_ (mH h i l I J nw df P) 35 x v = if kin x 3 then some (mH h i l (va_up I 35 (upd (I 35) x.toNatClampNeg v)) J nw df P) else none := m_is_ kd_35 (by decide)
theorem ln_35 {h : kH} {i : Nat → Nat → Int32} {l : Nat → Nat → Int64} {I : Nat → Nat → Int32} {J : Nat → Nat → Int64} {nw df : Nat} {P : Nat → Nat} {a : Nat} (ha : a < 3) : kil (mH h i l I J nw df P) 35 (nI a) = some (I 35 a) := by rw [ld_35, if_pos (nI_kin ha (by decide)), nI_clamp (by omega)]
theorem sn_35 {h : kH} {i : Nat → Nat → Int32} {l : Nat → Nat → Int64} {I : Nat → Nat → Int32} {J : Nat → Nat → Int64} {nw df : Nat} {P : Nat → Nat} {a : Nat} {v : Int32} (ha : a < 3) : kis_ (mH h i l I J nw df P) 35 (nI a) v = some (mH h i l (va_up I 35 (upd (I 35) a v)) J nw df P) := by rw [sd_35, if_pos (nI_kin ha (by decide)), nI_clamp (by omega)]
theorem ld_36 {h : kH} {i : Nat → Nat → Int32} {l : Nat → Nat → Int64} {I : Nat → Nat → Int32} {J : Nat → Nat → Int64} {nw df : Nat} {P : Nat → Nat} {x : Int32} : kil (mH h i l I J nw df P) 36 x = if kin x 3 then some (I 36 x.toNatClampNeg) else none := m_il kd_36 (by decide)
theorem sd_36 {h : kH} {i : Nat → Nat → Int32} {l : Nat → Nat → Int64} {I : Nat → Nat → Int32} {J : Nat → Nat → Int64} {nw df : Nat} {P : Nat → Nat} {x v : Int32} : kis_ (mH h i l I J nw df P) 36 x v = if kin x 3 then some (mH h i l (va_up I 36 (upd (I 36) x.toNatClampNeg v)) J nw df P) else none := m_is_ kd_36 (by decide)
theorem ln_36 {h : kH} {i : Nat → Nat → Int32} {l : Nat → Nat → Int64} {I : Nat → Nat → Int32} {J : Nat → Nat → Int64} {nw df : Nat} {P : Nat → Nat} {a : Nat} (ha : a < 3) : kil (mH h i l I J nw df P) 36 (nI a) = some (I 36 a) := by rw [ld_36, if_pos (nI_kin ha (by decide)), nI_clamp (by omega)]
theorem sn_36 {h : kH} {i : Nat → Nat → Int32} {l : Nat → Nat → Int64} {I : Nat → Nat → Int32} {J : Nat → Nat → Int64} {nw df : Nat} {P : Nat → Nat} {a : Nat} {v : Int32} (ha : a < 3) : kis_ (mH h i l I J nw df P) 36 (nI a) v = some (mH h i l (va_up I 36 (upd (I 36) a v)) J nw df P) := by rw [sd_36, if_pos (nI_kin ha (by decide)), nI_clamp (by omega)]
theorem is_37 {h : kH} {i : Nat → Nat → Int32} {l : Nat → Nat → Int64} {I : Nat → Nat → Int32} {J : Nat → Nat → Int64} {nw df : Nat} {P : Nat → Nat} : kis (mH h i l I J nw df P) 8 37 = true := m_is kd_37 (by decide) (by decide)
theorem ld_38 {h : kH} {i : Nat → Nat → Int32} {l : Nat → Nat → Int64} {I : Nat → Nat → Int32} {J : Nat → Nat → Int64} {nw df : Nat} {P : Nat → Nat} {x : Int32} : kil (mH h i l I J nw df P) 38 x = if kin x 5 then some (I 38 x.toNatClampNeg) else none := m_il kd_38 (by decide)
theorem sd_38 {h : kH} {i : Nat → Nat → Int32} {l : Nat → Nat → Int64} {I : Nat → Nat → Int32} {J : Nat → Nat → Int64} {nw df : Nat} {P : Nat → Nat} {x v : Int32} : kis_ (mH h i l I J nw df P) 38 x v = if kin x 5 then some (mH h i l (va_up I 38 (upd (I 38) x.toNatClampNeg v)) J nw df P) else none := m_is_ kd_38 (by decide)
theorem ln_38 {h : kH} {i : Nat → Nat → Int32} {l : Nat → Nat → Int64} {I : Nat → Nat → Int32} {J : Nat → Nat → Int64} {nw df : Nat} {P : Nat → Nat} {a : Nat} (ha : a < 5) : kil (mH h i l I J nw df P) 38 (nI a) = some (I 38 a) := by rw [ld_38, if_pos (nI_kin ha (by decide)), nI_clamp (by omega)]
theorem sn_38 {h : kH} {i : Nat → Nat → Int32} {l : Nat → Nat → Int64} {I : Nat → Nat → Int32} {J : Nat → Nat → Int64} {nw df : Nat} {P : Nat → Nat} {a : Nat} {v : Int32} (ha : a < 5) : kis_ (mH h i l I J nw df P) 38 (nI a) v = some (mH h i l (va_up I 38 (upd (I 38) a v)) J nw df P) := by rw [sd_38, if_pos (nI_kin ha (by decide)), nI_clamp (by omega)]
theorem is_39 {h : kH} {i : Nat → Nat → Int32} {l : Nat → Nat → Int64} {I : Nat → Nat → Int32} {J : Nat → Nat → Int64} {nw df : Nat} {P : Nat → Nat} : kis (mH h i l I J nw df P) 7 39 = true := m_is kd_39 (by decide) (by decide)
theorem ld_40 {h : kH} {i : Nat → Nat → Int32} {l : Nat → Nat → Int64} {I : Nat → Nat → Int32} {J : Nat → Nat → Int64} {nw df : Nat} {P : Nat → Nat} {x : Int32} : kil (mH h i l I J nw df P) 40 x = if kin x 10 then some (I 40 x.toNatClampNeg) else none := m_il kd_40 (by decide)
theorem sd_40 {h : kH} {i : Nat → Nat → Int32} {l : Nat → Nat → Int64} {I : Nat → Nat → Int32} {J : Nat → Nat → Int64} {nw df : Nat} {P : Nat → Nat} {x v : Int32} : kis_ (mH h i l I J nw df P) 40 x v = if kin x 10 then some (mH h i l (va_up I 40 (upd (I 40) x.toNatClampNeg v)) J nw df P) else none := m_is_ kd_40 (by decide)
theorem ln_40 {h : kH} {i : Nat → Nat → Int32} {l : Nat → Nat → Int64} {I : Nat → Nat → Int32} {J : Nat → Nat → Int64} {nw df : Nat} {P : Nat → Nat} {a : Nat} (ha : a < 10) : kil (mH h i l I J nw df P) 40 (nI a) = some (I 40 a) := by rw [ld_40, if_pos (nI_kin ha (by decide)), nI_clamp (by omega)]
theorem sn_40 {h : kH} {i : Nat → Nat → Int32} {l : Nat → Nat → Int64} {I : Nat → Nat → Int32} {J : Nat → Nat → Int64} {nw df : Nat} {P : Nat → Nat} {a : Nat} {v : Int32} (ha : a < 10) : kis_ (mH h i l I J nw df P) 40 (nI a) v = some (mH h i l (va_up I 40 (upd (I 40) a v)) J nw df P) := by rw [sd_40, if_pos (nI_kin ha (by decide)), nI_clamp (by omega)]
theorem ld_41 {h : kH} {i : Nat → Nat → Int32} {l : Nat → Nat → Int64} {I : Nat → Nat → Int32} {J : Nat → Nat → Int64} {nw df : Nat} {P : Nat → Nat} {x : Int32} : kil (mH h i l I J nw df P) 41 x = if kin x 10 then some (I 41 x.toNatClampNeg) else none := m_il kd_41 (by decide)
theorem sd_41 {h : kH} {i : Nat → Nat → Int32} {l : Nat → Nat → Int64} {I : Nat → Nat → Int32} {J : Nat → Nat → Int64} {nw df : Nat} {P : Nat → Nat} {x v : Int32} : kis_ (mH h i l I J nw df P) 41 x v = if kin x 10 then some (mH h i l (va_up I 41 (upd (I 41) x.toNatClampNeg v)) J nw df P) else none := m_is_ kd_41 (by decide)
theorem ln_41 {h : kH} {i : Nat → Nat → Int32} {l : Nat → Nat → Int64} {I : Nat → Nat → Int32} {J : Nat → Nat → Int64} {nw df : Nat} {P : Nat → Nat} {a : Nat} (ha : a < 10) : kil (mH h i l I J nw df P) 41 (nI a) = some (I 41 a) := by rw [ld_41, if_pos (nI_kin ha (by decide)), nI_clamp (by omega)]
theorem sn_41 {h : kH} {i : Nat → Nat → Int32} {l : Nat → Nat → Int64} {I : Nat → Nat → Int32} {J : Nat → Nat → Int64} {nw df : Nat} {P : Nat → Nat} {a : Nat} {v : Int32} (ha : a < 10) : kis_ (mH h i l I J nw df P) 41 (nI a) v = some (mH h i l (va_up I 41 (upd (I 41) a v)) J nw df P) := by rw [sd_41, if_pos (nI_kin ha (by decide)), nI_clamp (by omega)]
theorem is_42 {h : kH} {i : Nat → Nat → Int32} {l : Nat → Nat → Int64} {I : Nat → Nat → Int32} {J : Nat → Nat → Int64} {nw df : Nat} {P : Nat → Nat} : kis (mH h i l I J nw df P) 3 42 = true := m_is kd_42 (by decide) (by decide)
theorem ld_43 {h : kH} {i : Nat → Nat → Int32} {l : Nat → Nat → Int64} {I : Nat → Nat → Int32} {J : Nat → Nat → Int64} {nw df : Nat} {P : Nat → Nat} {x : Int32} : kil (mH h i l I J nw df P) 43 x = if kin x 200 then some (I 43 x.toNatClampNeg) else none := m_il kd_43 (by decide)
theorem sd_43 {h : kH} {i : Nat → Nat → Int32} {l : Nat → Nat → Int64} {I : Nat → Nat → Int32} {J : Nat → Nat → Int64} {nw df : Nat} {P : Nat → Nat} {x v : Int32} : kis_ (mH h i l I J nw df P) 43 x v = if kin x 200 then some (mH h i l (va_up I 43 (upd (I 43) x.toNatClampNeg v)) J nw df P) else none := m_is_ kd_43 (by decide)
theorem ln_43 {h : kH} {i : Nat → Nat → Int32} {l : Nat → Nat → Int64} {I : Nat → Nat → Int32} {J : Nat → Nat → Int64} {nw df : Nat} {P : Nat → Nat} {a : Nat} (ha : a < 200) : kil (mH h i l I J nw df P) 43 (nI a) = some (I 43 a) := by rw [ld_43, if_pos (nI_kin ha (by decide)), nI_clamp (by omega)]
theorem sn_43 {h : kH} {i : Nat → Nat → Int32} {l : Nat → Nat → Int64} {I : Nat → Nat → Int32} {J : Nat → Nat → Int64} {nw df : Nat} {P : Nat → Nat} {a : Nat} {v : Int32} (ha : a < 200) : kis_ (mH h i l I J nw df P) 43 (nI a) v = some (mH h i l (va_up I 43 (upd (I 43) a v)) J nw df P) := by rw [sd_43, if_pos (nI_kin ha (by decide)), nI_clamp (by omega)]
theorem ld_44 {h : kH} {i : Nat → Nat → Int32} {l : Nat → Nat → Int64} {I : Nat → Nat → Int32} {J : Nat → Nat → Int64} {nw df : Nat} {P : Nat → Nat} {x : Int32} : kil (mH h i l I J nw df P) 44 x = if kin x 200 then some (I 44 x.toNatClampNeg) else none := m_il kd_44 (by decide)
theorem sd_44 {h : kH} {i : Nat → Nat → Int32} {l : Nat → Nat → Int64} {I : Nat → Nat → Int32} {J : Nat → Nat → Int64} {nw df : Nat} {P : Nat → Nat} {x v : Int32} : kis_ (mH h i l I J nw df P) 44 x v = if kin x 200 then some (mH h i l (va_up I 44 (upd (I 44) x.toNatClampNeg v)) J nw df P) else none := m_is_ kd_44 (by decide)
theorem ln_44 {h : kH} {i : Nat → Nat → Int32} {l : Nat → Nat → Int64} {I : Nat → Nat → Int32} {J : Nat → Nat → Int64} {nw df : Nat} {P : Nat → Nat} {a : Nat} (ha : a < 200) : kil (mH h i l I J nw df P) 44 (nI a) = some (I 44 a) := by rw [ld_44, if_pos (nI_kin ha (by decide)), nI_clamp (by omega)]
theorem sn_44 {h : kH} {i : Nat → Nat → Int32} {l : Nat → Nat → Int64} {I : Nat → Nat → Int32} {J : Nat → Nat → Int64} {nw df : Nat} {P : Nat → Nat} {a : Nat} {v : Int32} (ha : a < 200) : kis_ (mH h i l I J nw df P) 44 (nI a) v = some (mH h i l (va_up I 44 (upd (I 44) a v)) J nw df P) := by rw [sd_44, if_pos (nI_kin ha (by decide)), nI_clamp (by omega)]
theorem is_45 {h : kH} {i : Nat → Nat → Int32} {l : Nat → Nat → Int64} {I : Nat → Nat → Int32} {J : Nat → Nat → Int64} {nw df : Nat} {P : Nat → Nat} : kis (mH h i l I J nw df P) 9 45 = true := m_is kd_45 (by decide) (by decide)
theorem ld_46 {h : kH} {i : Nat → Nat → Int32} {l : Nat → Nat → Int64} {I : Nat → Nat → Int32} {J : Nat → Nat → Int64} {nw df : Nat} {P : Nat → Nat} {x : Int32} : kil (mH h i l I J nw df P) 46 x = if kin x 10 then some (I 46 x.toNatClampNeg) else none := m_il kd_46 (by decide)
theorem sd_46 {h : kH} {i : Nat → Nat → Int32} {l : Nat → Nat → Int64} {I : Nat → Nat → Int32} {J : Nat → Nat → Int64} {nw df : Nat} {P : Nat → Nat} {x v : Int32} : kis_ (mH h i l I J nw df P) 46 x v = if kin x 10 then some (mH h i l (va_up I 46 (upd (I 46) x.toNatClampNeg v)) J nw df P) else none := m_is_ kd_46 (by decide)
theorem ln_46 {h : kH} {i : Nat → Nat → Int32} {l : Nat → Nat → Int64} {I : Nat → Nat → Int32} {J : Nat → Nat → Int64} {nw df : Nat} {P : Nat → Nat} {a : Nat} (ha : a < 10) : kil (mH h i l I J nw df P) 46 (nI a) = some (I 46 a) := by rw [ld_46, if_pos (nI_kin ha (by decide)), nI_clamp (by omega)]
theorem sn_46 {h : kH} {i : Nat → Nat → Int32} {l : Nat → Nat → Int64} {I : Nat → Nat → Int32} {J : Nat → Nat → Int64} {nw df : Nat} {P : Nat → Nat} {a : Nat} {v : Int32} (ha : a < 10) : kis_ (mH h i l I J nw df P) 46 (nI a) v = some (mH h i l (va_up I 46 (upd (I 46) a v)) J nw df P) := by rw [sd_46, if_pos (nI_kin ha (by decide)), nI_clamp (by omega)]
theorem ld_47 {h : kH} {i : Nat → Nat → Int32} {l : Nat → Nat → Int64} {I : Nat → Nat → Int32} {J : Nat → Nat → Int64} {nw df : Nat} {P : Nat → Nat} {x : Int32} : kil (mH h i l I J nw df P) 47 x = if kin x 10 then some (I 47 x.toNatClampNeg) else none := m_il kd_47 (by decide)
theorem sd_47 {h : kH} {i : Nat → Nat → Int32} {l : Nat → Nat → Int64} {I : Nat → Nat → Int32} {J : Nat → Nat → Int64} {nw df : Nat} {P : Nat → Nat} {x v : Int32} : kis_ (mH h i l I J nw df P) 47 x v = if kin x 10 then some (mH h i l (va_up I 47 (upd (I 47) x.toNatClampNeg v)) J nw df P) else none := m_is_ kd_47 (by decide)
theorem ln_47 {h : kH} {i : Nat → Nat → Int32} {l : Nat → Nat → Int64} {I : Nat → Nat → Int32} {J : Nat → Nat → Int64} {nw df : Nat} {P : Nat → Nat} {a : Nat} (ha : a < 10) : kil (mH h i l I J nw df P) 47 (nI a) = some (I 47 a) := by rw [ld_47, if_pos (nI_kin ha (by decide)), nI_clamp (by omega)]
theorem sn_47 {h : kH} {i : Nat → Nat → Int32} {l : Nat → Nat → Int64} {I : Nat → Nat → Int32} {J : Nat → Nat → Int64} {nw df : Nat} {P : Nat → Nat} {a : Nat} {v : Int32} (ha : a < 10) : kis_ (mH h i l I J nw df P) 47 (nI a) v = some (mH h i l (va_up I 47 (upd (I 47) a v)) J nw df P) := by rw [sd_47, if_pos (nI_kin ha (by decide)), nI_clamp (by omega)]
theorem is_48 {h : kH} {i : Nat → Nat → Int32} {l : Nat → Nat → Int64} {I : Nat → Nat → Int32} {J : Nat → Nat → Int64} {nw df : Nat} {P : Nat → Nat} : kis (mH h i l I J nw df P) 5 48 = true := m_is kd_48 (by decide) (by decide)
theorem ld_49 {h : kH} {i : Nat → Nat → Int32} {l : Nat → Nat → Int64} {I : Nat → Nat → Int32} {J : Nat → Nat → Int64} {nw df : Nat} {P : Nat → Nat} {x : Int32} : kil (mH h i l I J nw df P) 49 x = if kin x 20 then some (I 49 x.toNatClampNeg) else none := m_il kd_49 (by decide)
theorem sd_49 {h : kH} {i : Nat → Nat → Int32} {l : Nat → Nat → Int64} {I : Nat → Nat → Int32} {J : Nat → Nat → Int64} {nw df : Nat} {P : Nat → Nat} {x v : Int32} : kis_ (mH h i l I J nw df P) 49 x v = if kin x 20 then some (mH h i l (va_up I 49 (upd (I 49) x.toNatClampNeg v)) J nw df P) else none := m_is_ kd_49 (by decide)
theorem ln_49 {h : kH} {i : Nat → Nat → Int32} {l : Nat → Nat → Int64} {I : Nat → Nat → Int32} {J : Nat → Nat → Int64} {nw df : Nat} {P : Nat → Nat} {a : Nat} (ha : a < 20) : kil (mH h i l I J nw df P) 49 (nI a) = some (I 49 a) := by rw [ld_49, if_pos (nI_kin ha (by decide)), nI_clamp (by omega)]
theorem sn_49 {h : kH} {i : Nat → Nat → Int32} {l : Nat → Nat → Int64} {I : Nat → Nat → Int32} {J : Nat → Nat → Int64} {nw df : Nat} {P : Nat → Nat} {a : Nat} {v : Int32} (ha : a < 20) : kis_ (mH h i l I J nw df P) 49 (nI a) v = some (mH h i l (va_up I 49 (upd (I 49) a v)) J nw df P) := by rw [sd_49, if_pos (nI_kin ha (by decide)), nI_clamp (by omega)]
theorem ld_50 {h : kH} {i : Nat → Nat → Int32} {l : Nat → Nat → Int64} {I : Nat → Nat → Int32} {J : Nat → Nat → Int64} {nw df : Nat} {P : Nat → Nat} {x : Int32} : kil (mH h i l I J nw df P) 50 x = if kin x 200 then some (I 50 x.toNatClampNeg) else none := m_il kd_50 (by decide)
theorem sd_50 {h : kH} {i : Nat → Nat → Int32} {l : Nat → Nat → Int64} {I : Nat → Nat → Int32} {J : Nat → Nat → Int64} {nw df : Nat} {P : Nat → Nat} {x v : Int32} : kis_ (mH h i l I J nw df P) 50 x v = if kin x 200 then some (mH h i l (va_up I 50 (upd (I 50) x.toNatClampNeg v)) J nw df P) else none := m_is_ kd_50 (by decide)
theorem ln_50 {h : kH} {i : Nat → Nat → Int32} {l : Nat → Nat → Int64} {I : Nat → Nat → Int32} {J : Nat → Nat → Int64} {nw df : Nat} {P : Nat → Nat} {a : Nat} (ha : a < 200) : kil (mH h i l I J nw df P) 50 (nI a) = some (I 50 a) := by rw [ld_50, if_pos (nI_kin ha (by decide)), nI_clamp (by omega)]
theorem sn_50 {h : kH} {i : Nat → Nat → Int32} {l : Nat → Nat → Int64} {I : Nat → Nat → Int32} {J : Nat → Nat → Int64} {nw df : Nat} {P : Nat → Nat} {a : Nat} {v : Int32} (ha : a < 200) : kis_ (mH h i l I J nw df P) 50 (nI a) v = some (mH h i l (va_up I 50 (upd (I 50) a v)) J nw df P) := by rw [sd_50, if_pos (nI_kin ha (by decide)), nI_clamp (by omega)]
theorem is_51 {h : kH} {i : Nat → Nat → Int32} {l : Nat → Nat → Int64} {I : Nat → Nat → Int32} {J : Nat → Nat → Int64} {nw df : Nat} {P : Nat → Nat} : kis (mH h i l I J nw df P) 8 51 = true := m_is kd_51 (by decide) (by decide)
theorem ld_52 {h : kH} {i : Nat → Nat → Int32} {l : Nat → Nat → Int64} {I : Nat → Nat → Int32} {J : Nat → Nat → Int64} {nw df : Nat} {P : Nat → Nat} {x : Int32} : kil (mH h i l I J nw df P) 52 x = if kin x 5 then some (I 52 x.toNatClampNeg) else none := m_il kd_52 (by decide)
theorem sd_52 {h : kH} {i : Nat → Nat → Int32} {l : Nat → Nat → Int64} {I : Nat → Nat → Int32} {J : Nat → Nat → Int64} {nw df : Nat} {P : Nat → Nat} {x v : Int32} : kis_ (mH h i l I J nw df P) 52 x v = if kin x 5 then some (mH h i l (va_up I 52 (upd (I 52) x.toNatClampNeg v)) J nw df P) else none := m_is_ kd_52 (by decide)
theorem ln_52 {h : kH} {i : Nat → Nat → Int32} {l : Nat → Nat → Int64} {I : Nat → Nat → Int32} {J : Nat → Nat → Int64} {nw df : Nat} {P : Nat → Nat} {a : Nat} (ha : a < 5) : kil (mH h i l I J nw df P) 52 (nI a) = some (I 52 a) := by rw [ld_52, if_pos (nI_kin ha (by decide)), nI_clamp (by omega)]
theorem sn_52 {h : kH} {i : Nat → Nat → Int32} {l : Nat → Nat → Int64} {I : Nat → Nat → Int32} {J : Nat → Nat → Int64} {nw df : Nat} {P : Nat → Nat} {a : Nat} {v : Int32} (ha : a < 5) : kis_ (mH h i l I J nw df P) 52 (nI a) v = some (mH h i l (va_up I 52 (upd (I 52) a v)) J nw df P) := by rw [sd_52, if_pos (nI_kin ha (by decide)), nI_clamp (by omega)]
theorem is_53 {h : kH} {i : Nat → Nat → Int32} {l : Nat → Nat → Int64} {I : Nat → Nat → Int32} {J : Nat → Nat → Int64} {nw df : Nat} {P : Nat → Nat} : kis (mH h i l I J nw df P) 7 53 = true := m_is kd_53 (by decide) (by decide)
theorem ld_54 {h : kH} {i : Nat → Nat → Int32} {l : Nat → Nat → Int64} {I : Nat → Nat → Int32} {J : Nat → Nat → Int64} {nw df : Nat} {P : Nat → Nat} {x : Int32} : kil (mH h i l I J nw df P) 54 x = if kin x 10 then some (I 54 x.toNatClampNeg) else none := m_il kd_54 (by decide)
theorem sd_54 {h : kH} {i : Nat → Nat → Int32} {l : Nat → Nat → Int64} {I : Nat → Nat → Int32} {J : Nat → Nat → Int64} {nw df : Nat} {P : Nat → Nat} {x v : Int32} : kis_ (mH h i l I J nw df P) 54 x v = if kin x 10 then some (mH h i l (va_up I 54 (upd (I 54) x.toNatClampNeg v)) J nw df P) else none := m_is_ kd_54 (by decide)
theorem ln_54 {h : kH} {i : Nat → Nat → Int32} {l : Nat → Nat → Int64} {I : Nat → Nat → Int32} {J : Nat → Nat → Int64} {nw df : Nat} {P : Nat → Nat} {a : Nat} (ha : a < 10) : kil (mH h i l I J nw df P) 54 (nI a) = some (I 54 a) := by rw [ld_54, if_pos (nI_kin ha (by decide)), nI_clamp (by omega)]
theorem sn_54 {h : kH} {i : Nat → Nat → Int32} {l : Nat → Nat → Int64} {I : Nat → Nat → Int32} {J : Nat → Nat → Int64} {nw df : Nat} {P : Nat → Nat} {a : Nat} {v : Int32} (ha : a < 10) : kis_ (mH h i l I J nw df P) 54 (nI a) v = some (mH h i l (va_up I 54 (upd (I 54) a v)) J nw df P) := by rw [sd_54, if_pos (nI_kin ha (by decide)), nI_clamp (by omega)]
theorem ld_55 {h : kH} {i : Nat → Nat → Int32} {l : Nat → Nat → Int64} {I : Nat → Nat → Int32} {J : Nat → Nat → Int64} {nw df : Nat} {P : Nat → Nat} {x : Int32} : kil (mH h i l I J nw df P) 55 x = if kin x 10 then some (I 55 x.toNatClampNeg) else none := m_il kd_55 (by decide)
theorem sd_55 {h : kH} {i : Nat → Nat → Int32} {l : Nat → Nat → Int64} {I : Nat → Nat → Int32} {J : Nat → Nat → Int64} {nw df : Nat} {P : Nat → Nat} {x v : Int32} : kis_ (mH h i l I J nw df P) 55 x v = if kin x 10 then some (mH h i l (va_up I 55 (upd (I 55) x.toNatClampNeg v)) J nw df P) else none := m_is_ kd_55 (by decide)
theorem ln_55 {h : kH} {i : Nat → Nat → Int32} {l : Nat → Nat → Int64} {I : Nat → Nat → Int32} {J : Nat → Nat → Int64} {nw df : Nat} {P : Nat → Nat} {a : Nat} (ha : a < 10) : kil (mH h i l I J nw df P) 55 (nI a) = some (I 55 a) := by rw [ld_55, if_pos (nI_kin ha (by decide)), nI_clamp (by omega)]
theorem sn_55 {h : kH} {i : Nat → Nat → Int32} {l : Nat → Nat → Int64} {I : Nat → Nat → Int32} {J : Nat → Nat → Int64} {nw df : Nat} {P : Nat → Nat} {a : Nat} {v : Int32} (ha : a < 10) : kis_ (mH h i l I J nw df P) 55 (nI a) v = some (mH h i l (va_up I 55 (upd (I 55) a v)) J nw df P) := by rw [sd_55, if_pos (nI_kin ha (by decide)), nI_clamp (by omega)]
theorem is_56 {h : kH} {i : Nat → Nat → Int32} {l : Nat → Nat → Int64} {I : Nat → Nat → Int32} {J : Nat → Nat → Int64} {nw df : Nat} {P : Nat → Nat} : kis (mH h i l I J nw df P) 3 56 = true := m_is kd_56 (by decide) (by decide)
theorem ld_57 {h : kH} {i : Nat → Nat → Int32} {l : Nat → Nat → Int64} {I : Nat → Nat → Int32} {J : Nat → Nat → Int64} {nw df : Nat} {P : Nat → Nat} {x : Int32} : kil (mH h i l I J nw df P) 57 x = if kin x 200 then some (I 57 x.toNatClampNeg) else none := m_il kd_57 (by decide)
theorem sd_57 {h : kH} {i : Nat → Nat → Int32} {l : Nat → Nat → Int64} {I : Nat → Nat → Int32} {J : Nat → Nat → Int64} {nw df : Nat} {P : Nat → Nat} {x v : Int32} : kis_ (mH h i l I J nw df P) 57 x v = if kin x 200 then some (mH h i l (va_up I 57 (upd (I 57) x.toNatClampNeg v)) J nw df P) else none := m_is_ kd_57 (by decide)
theorem ln_57 {h : kH} {i : Nat → Nat → Int32} {l : Nat → Nat → Int64} {I : Nat → Nat → Int32} {J : Nat → Nat → Int64} {nw df : Nat} {P : Nat → Nat} {a : Nat} (ha : a < 200) : kil (mH h i l I J nw df P) 57 (nI a) = some (I 57 a) := by rw [ld_57, if_pos (nI_kin ha (by decide)), nI_clamp (by omega)]
theorem sn_57 {h : kH} {i : Nat → Nat → Int32} {l : Nat → Nat → Int64} {I : Nat → Nat → Int32} {J : Nat → Nat → Int64} {nw df : Nat} {P : Nat → Nat} {a : Nat} {v : Int32} (ha : a < 200) : kis_ (mH h i l I J nw df P) 57 (nI a) v = some (mH h i l (va_up I 57 (upd (I 57) a v)) J nw df P) := by rw [sd_57, if_pos (nI_kin ha (by decide)), nI_clamp (by omega)]
theorem ld_58 {h : kH} {i : Nat → Nat → Int32} {l : Nat → Nat → Int64} {I : Nat → Nat → Int32} {J : Nat → Nat → Int64} {nw df : Nat} {P : Nat → Nat} {x : Int32} : kil (mH h i l I J nw df P) 58 x = if kin x 200 then some (I 58 x.toNatClampNeg) else none := m_il kd_58 (by decide)
theorem sd_58 {h : kH} {i : Nat → Nat → Int32} {l : Nat → Nat → Int64} {I : Nat → Nat → Int32} {J : Nat → Nat → Int64} {nw df : Nat} {P : Nat → Nat} {x v : Int32} : kis_ (mH h i l I J nw df P) 58 x v = if kin x 200 then some (mH h i l (va_up I 58 (upd (I 58) x.toNatClampNeg v)) J nw df P) else none := m_is_ kd_58 (by decide)
theorem ln_58 {h : kH} {i : Nat → Nat → Int32} {l : Nat → Nat → Int64} {I : Nat → Nat → Int32} {J : Nat → Nat → Int64} {nw df : Nat} {P : Nat → Nat} {a : Nat} (ha : a < 200) : kil (mH h i l I J nw df P) 58 (nI a) = some (I 58 a) := by rw [ld_58, if_pos (nI_kin ha (by decide)), nI_clamp (by omega)]
theorem sn_58 {h : kH} {i : Nat → Nat → Int32} {l : Nat → Nat → Int64} {I : Nat → Nat → Int32} {J : Nat → Nat → Int64} {nw df : Nat} {P : Nat → Nat} {a : Nat} {v : Int32} (ha : a < 200) : kis_ (mH h i l I J nw df P) 58 (nI a) v = some (mH h i l (va_up I 58 (upd (I 58) a v)) J nw df P) := by rw [sd_58, if_pos (nI_kin ha (by decide)), nI_clamp (by omega)]
theorem is_59 {h : kH} {i : Nat → Nat → Int32} {l : Nat → Nat → Int64} {I : Nat → Nat → Int32} {J : Nat → Nat → Int64} {nw df : Nat} {P : Nat → Nat} : kis (mH h i l I J nw df P) 9 59 = true := m_is kd_59 (by decide) (by decide)
theorem ld_60 {h : kH} {i : Nat → Nat → Int32} {l : Nat → Nat → Int64} {I : Nat → Nat → Int32} {J : Nat → Nat → Int64} {nw df : Nat} {P : Nat → Nat} {x : Int32} : kil (mH h i l I J nw df P) 60 x = if kin x 10 then some (I 60 x.toNatClampNeg) else none := m_il kd_60 (by decide)
theorem sd_60 {h : kH} {i : Nat → Nat → Int32} {l : Nat → Nat → Int64} {I : Nat → Nat → Int32} {J : Nat → Nat → Int64} {nw df : Nat} {P : Nat → Nat} {x v : Int32} : kis_ (mH h i l I J nw df P) 60 x v = if kin x 10 then some (mH h i l (va_up I 60 (upd (I 60) x.toNatClampNeg v)) J nw df P) else none := m_is_ kd_60 (by decide)
theorem ln_60 {h : kH} {i : Nat → Nat → Int32} {l : Nat → Nat → Int64} {I : Nat → Nat → Int32} {J : Nat → Nat → Int64} {nw df : Nat} {P : Nat → Nat} {a : Nat} (ha : a < 10) : kil (mH h i l I J nw df P) 60 (nI a) = some (I 60 a) := by rw [ld_60, if_pos (nI_kin ha (by decide)), nI_clamp (by omega)]
theorem sn_60 {h : kH} {i : Nat → Nat → Int32} {l : Nat → Nat → Int64} {I : Nat → Nat → Int32} {J : Nat → Nat → Int64} {nw df : Nat} {P : Nat → Nat} {a : Nat} {v : Int32} (ha : a < 10) : kis_ (mH h i l I J nw df P) 60 (nI a) v = some (mH h i l (va_up I 60 (upd (I 60) a v)) J nw df P) := by rw [sd_60, if_pos (nI_kin ha (by decide)), nI_clamp (by omega)]
theorem ld_61 {h : kH} {i : Nat → Nat → Int32} {l : Nat → Nat → Int64} {I : Nat → Nat → Int32} {J : Nat → Nat → Int64} {nw df : Nat} {P : Nat → Nat} {x : Int32} : kil (mH h i l I J nw df P) 61 x = if kin x 10 then some (I 61 x.toNatClampNeg) else none := m_il kd_61 (by decide)
theorem sd_61 {h : kH} {i : Nat → Nat → Int32} {l : Nat → Nat → Int64} {I : Nat → Nat → Int32} {J : Nat → Nat → Int64} {nw df : Nat} {P : Nat → Nat} {x v : Int32} : kis_ (mH h i l I J nw df P) 61 x v = if kin x 10 then some (mH h i l (va_up I 61 (upd (I 61) x.toNatClampNeg v)) J nw df P) else none := m_is_ kd_61 (by decide)
theorem ln_61 {h : kH} {i : Nat → Nat → Int32} {l : Nat → Nat → Int64} {I : Nat → Nat → Int32} {J : Nat → Nat → Int64} {nw df : Nat} {P : Nat → Nat} {a : Nat} (ha : a < 10) : kil (mH h i l I J nw df P) 61 (nI a) = some (I 61 a) := by rw [ld_61, if_pos (nI_kin ha (by decide)), nI_clamp (by omega)]
theorem sn_61 {h : kH} {i : Nat → Nat → Int32} {l : Nat → Nat → Int64} {I : Nat → Nat → Int32} {J : Nat → Nat → Int64} {nw df : Nat} {P : Nat → Nat} {a : Nat} {v : Int32} (ha : a < 10) : kis_ (mH h i l I J nw df P) 61 (nI a) v = some (mH h i l (va_up I 61 (upd (I 61) a v)) J nw df P) := by rw [sd_61, if_pos (nI_kin ha (by decide)), nI_clamp (by omega)]
theorem is_62 {h : kH} {i : Nat → Nat → Int32} {l : Nat → Nat → Int64} {I : Nat → Nat → Int32} {J : Nat → Nat → Int64} {nw df : Nat} {P : Nat → Nat} : kis (mH h i l I J nw df P) 5 62 = true := m_is kd_62 (by decide) (by decide)
theorem ld_63 {h : kH} {i : Nat → Nat → Int32} {l : Nat → Nat → Int64} {I : Nat → Nat → Int32} {J : Nat → Nat → Int64} {nw df : Nat} {P : Nat → Nat} {x : Int32} : kil (mH h i l I J nw df P) 63 x = if kin x 20 then some (I 63 x.toNatClampNeg) else none := m_il kd_63 (by decide)
theorem sd_63 {h : kH} {i : Nat → Nat → Int32} {l : Nat → Nat → Int64} {I : Nat → Nat → Int32} {J : Nat → Nat → Int64} {nw df : Nat} {P : Nat → Nat} {x v : Int32} : kis_ (mH h i l I J nw df P) 63 x v = if kin x 20 then some (mH h i l (va_up I 63 (upd (I 63) x.toNatClampNeg v)) J nw df P) else none := m_is_ kd_63 (by decide)
theorem ln_63 {h : kH} {i : Nat → Nat → Int32} {l : Nat → Nat → Int64} {I : Nat → Nat → Int32} {J : Nat → Nat → Int64} {nw df : Nat} {P : Nat → Nat} {a : Nat} (ha : a < 20) : kil (mH h i l I J nw df P) 63 (nI a) = some (I 63 a) := by rw [ld_63, if_pos (nI_kin ha (by decide)), nI_clamp (by omega)]
theorem sn_63 {h : kH} {i : Nat → Nat → Int32} {l : Nat → Nat → Int64} {I : Nat → Nat → Int32} {J : Nat → Nat → Int64} {nw df : Nat} {P : Nat → Nat} {a : Nat} {v : Int32} (ha : a < 20) : kis_ (mH h i l I J nw df P) 63 (nI a) v = some (mH h i l (va_up I 63 (upd (I 63) a v)) J nw df P) := by rw [sd_63, if_pos (nI_kin ha (by decide)), nI_clamp (by omega)]
theorem ld_64 {h : kH} {i : Nat → Nat → Int32} {l : Nat → Nat → Int64} {I : Nat → Nat → Int32} {J : Nat → Nat → Int64} {nw df : Nat} {P : Nat → Nat} {x : Int32} : kil (mH h i l I J nw df P) 64 x = if kin x 200 then some (I 64 x.toNatClampNeg) else none := m_il kd_64 (by decide)
theorem sd_64 {h : kH} {i : Nat → Nat → Int32} {l : Nat → Nat → Int64} {I : Nat → Nat → Int32} {J : Nat → Nat → Int64} {nw df : Nat} {P : Nat → Nat} {x v : Int32} : kis_ (mH h i l I J nw df P) 64 x v = if kin x 200 then some (mH h i l (va_up I 64 (upd (I 64) x.toNatClampNeg v)) J nw df P) else none := m_is_ kd_64 (by decide)
theorem ln_64 {h : kH} {i : Nat → Nat → Int32} {l : Nat → Nat → Int64} {I : Nat → Nat → Int32} {J : Nat → Nat → Int64} {nw df : Nat} {P : Nat → Nat} {a : Nat} (ha : a < 200) : kil (mH h i l I J nw df P) 64 (nI a) = some (I 64 a) := by rw [ld_64, if_pos (nI_kin ha (by decide)), nI_clamp (by omega)]
theorem sn_64 {h : kH} {i : Nat → Nat → Int32} {l : Nat → Nat → Int64} {I : Nat → Nat → Int32} {J : Nat → Nat → Int64} {nw df : Nat} {P : Nat → Nat} {a : Nat} {v : Int32} (ha : a < 200) : kis_ (mH h i l I J nw df P) 64 (nI a) v = some (mH h i l (va_up I 64 (upd (I 64) a v)) J nw df P) := by rw [sd_64, if_pos (nI_kin ha (by decide)), nI_clamp (by omega)]
theorem is_66 {h : kH} {i : Nat → Nat → Int32} {l : Nat → Nat → Int64} {I : Nat → Nat → Int32} {J : Nat → Nat → Int64} {nw df : Nat} {P : Nat → Nat} : kis (mH h i l I J nw df P) 3 66 = true := m_is kd_66 (by decide) (by decide)
theorem ld_67 {h : kH} {i : Nat → Nat → Int32} {l : Nat → Nat → Int64} {I : Nat → Nat → Int32} {J : Nat → Nat → Int64} {nw df : Nat} {P : Nat → Nat} {x : Int32} : kil (mH h i l I J nw df P) 67 x = if kin x 200 then some (I 67 x.toNatClampNeg) else none := m_il kd_67 (by decide)
theorem sd_67 {h : kH} {i : Nat → Nat → Int32} {l : Nat → Nat → Int64} {I : Nat → Nat → Int32} {J : Nat → Nat → Int64} {nw df : Nat} {P : Nat → Nat} {x v : Int32} : kis_ (mH h i l I J nw df P) 67 x v = if kin x 200 then some (mH h i l (va_up I 67 (upd (I 67) x.toNatClampNeg v)) J nw df P) else none := m_is_ kd_67 (by decide)
theorem ln_67 {h : kH} {i : Nat → Nat → Int32} {l : Nat → Nat → Int64} {I : Nat → Nat → Int32} {J : Nat → Nat → Int64} {nw df : Nat} {P : Nat → Nat} {a : Nat} (ha : a < 200) : kil (mH h i l I J nw df P) 67 (nI a) = some (I 67 a) := by rw [ld_67, if_pos (nI_kin ha (by decide)), nI_clamp (by omega)]
theorem sn_67 {h : kH} {i : Nat → Nat → Int32} {l : Nat → Nat → Int64} {I : Nat → Nat → Int32} {J : Nat → Nat → Int64} {nw df : Nat} {P : Nat → Nat} {a : Nat} {v : Int32} (ha : a < 200) : kis_ (mH h i l I J nw df P) 67 (nI a) v = some (mH h i l (va_up I 67 (upd (I 67) a v)) J nw df P) := by rw [sd_67, if_pos (nI_kin ha (by decide)), nI_clamp (by omega)]
theorem ld_68 {h : kH} {i : Nat → Nat → Int32} {l : Nat → Nat → Int64} {I : Nat → Nat → Int32} {J : Nat → Nat → Int64} {nw df : Nat} {P : Nat → Nat} {x : Int32} : kil (mH h i l I J nw df P) 68 x = if kin x 200 then some (I 68 x.toNatClampNeg) else none := m_il kd_68 (by decide)
theorem sd_68 {h : kH} {i : Nat → Nat → Int32} {l : Nat → Nat → Int64} {I : Nat → Nat → Int32} {J : Nat → Nat → Int64} {nw df : Nat} {P : Nat → Nat} {x v : Int32} : kis_ (mH h i l I J nw df P) 68 x v = if kin x 200 then some (mH h i l (va_up I 68 (upd (I 68) x.toNatClampNeg v)) J nw df P) else none := m_is_ kd_68 (by decide)
theorem ln_68 {h : kH} {i : Nat → Nat → Int32} {l : Nat → Nat → Int64} {I : Nat → Nat → Int32} {J : Nat → Nat → Int64} {nw df : Nat} {P : Nat → Nat} {a : Nat} (ha : a < 200) : kil (mH h i l I J nw df P) 68 (nI a) = some (I 68 a) := by rw [ld_68, if_pos (nI_kin ha (by decide)), nI_clamp (by omega)]
theorem sn_68 {h : kH} {i : Nat → Nat → Int32} {l : Nat → Nat → Int64} {I : Nat → Nat → Int32} {J : Nat → Nat → Int64} {nw df : Nat} {P : Nat → Nat} {a : Nat} {v : Int32} (ha : a < 200) : kis_ (mH h i l I J nw df P) 68 (nI a) v = some (mH h i l (va_up I 68 (upd (I 68) a v)) J nw df P) := by rw [sd_68, if_pos (nI_kin ha (by decide)), nI_clamp (by omega)]
theorem is_69 {h : kH} {i : Nat → Nat → Int32} {l : Nat → Nat → Int64} {I : Nat → Nat → Int32} {J : Nat → Nat → Int64} {nw df : Nat} {P : Nat → Nat} : kis (mH h i l I J nw df P) 3 69 = true := m_is kd_69 (by decide) (by decide)
theorem ld_70 {h : kH} {i : Nat → Nat → Int32} {l : Nat → Nat → Int64} {I : Nat → Nat → Int32} {J : Nat → Nat → Int64} {nw df : Nat} {P : Nat → Nat} {x : Int32} : kil (mH h i l I J nw df P) 70 x = if kin x 200 then some (I 70 x.toNatClampNeg) else none := m_il kd_70 (by decide)
theorem sd_70 {h : kH} {i : Nat → Nat → Int32} {l : Nat → Nat → Int64} {I : Nat → Nat → Int32} {J : Nat → Nat → Int64} {nw df : Nat} {P : Nat → Nat} {x v : Int32} : kis_ (mH h i l I J nw df P) 70 x v = if kin x 200 then some (mH h i l (va_up I 70 (upd (I 70) x.toNatClampNeg v)) J nw df P) else none := m_is_ kd_70 (by decide)
theorem ln_70 {h : kH} {i : Nat → Nat → Int32} {l : Nat → Nat → Int64} {I : Nat → Nat → Int32} {J : Nat → Nat → Int64} {nw df : Nat} {P : Nat → Nat} {a : Nat} (ha : a < 200) : kil (mH h i l I J nw df P) 70 (nI a) = some (I 70 a) := by rw [ld_70, if_pos (nI_kin ha (by decide)), nI_clamp (by omega)]
theorem sn_70 {h : kH} {i : Nat → Nat → Int32} {l : Nat → Nat → Int64} {I : Nat → Nat → Int32} {J : Nat → Nat → Int64} {nw df : Nat} {P : Nat → Nat} {a : Nat} {v : Int32} (ha : a < 200) : kis_ (mH h i l I J nw df P) 70 (nI a) v = some (mH h i l (va_up I 70 (upd (I 70) a v)) J nw df P) := by rw [sd_70, if_pos (nI_kin ha (by decide)), nI_clamp (by omega)]
theorem ld_71 {h : kH} {i : Nat → Nat → Int32} {l : Nat → Nat → Int64} {I : Nat → Nat → Int32} {J : Nat → Nat → Int64} {nw df : Nat} {P : Nat → Nat} {x : Int32} : kil (mH h i l I J nw df P) 71 x = if kin x 200 then some (I 71 x.toNatClampNeg) else none := m_il kd_71 (by decide)
theorem sd_71 {h : kH} {i : Nat → Nat → Int32} {l : Nat → Nat → Int64} {I : Nat → Nat → Int32} {J : Nat → Nat → Int64} {nw df : Nat} {P : Nat → Nat} {x v : Int32} : kis_ (mH h i l I J nw df P) 71 x v = if kin x 200 then some (mH h i l (va_up I 71 (upd (I 71) x.toNatClampNeg v)) J nw df P) else none := m_is_ kd_71 (by decide)
theorem ln_71 {h : kH} {i : Nat → Nat → Int32} {l : Nat → Nat → Int64} {I : Nat → Nat → Int32} {J : Nat → Nat → Int64} {nw df : Nat} {P : Nat → Nat} {a : Nat} (ha : a < 200) : kil (mH h i l I J nw df P) 71 (nI a) = some (I 71 a) := by rw [ld_71, if_pos (nI_kin ha (by decide)), nI_clamp (by omega)]
theorem sn_71 {h : kH} {i : Nat → Nat → Int32} {l : Nat → Nat → Int64} {I : Nat → Nat → Int32} {J : Nat → Nat → Int64} {nw df : Nat} {P : Nat → Nat} {a : Nat} {v : Int32} (ha : a < 200) : kis_ (mH h i l I J nw df P) 71 (nI a) v = some (mH h i l (va_up I 71 (upd (I 71) a v)) J nw df P) := by rw [sd_71, if_pos (nI_kin ha (by decide)), nI_clamp (by omega)]
theorem is_72 {h : kH} {i : Nat → Nat → Int32} {l : Nat → Nat → Int64} {I : Nat → Nat → Int32} {J : Nat → Nat → Int64} {nw df : Nat} {P : Nat → Nat} : kis (mH h i l I J nw df P) 6 72 = true := m_is kd_72 (by decide) (by decide)
theorem is_73 {h : kH} {i : Nat → Nat → Int32} {l : Nat → Nat → Int64} {I : Nat → Nat → Int32} {J : Nat → Nat → Int64} {nw df : Nat} {P : Nat → Nat} : kis (mH h i l I J nw df P) 6 73 = true := m_is kd_73 (by decide) (by decide)
theorem is_74 {h : kH} {i : Nat → Nat → Int32} {l : Nat → Nat → Int64} {I : Nat → Nat → Int32} {J : Nat → Nat → Int64} {nw df : Nat} {P : Nat → Nat} : kis (mH h i l I J nw df P) 2 74 = true := m_is kd_74 (by decide) (by decide)
theorem ld_75 {h : kH} {i : Nat → Nat → Int32} {l : Nat → Nat → Int64} {I : Nat → Nat → Int32} {J : Nat → Nat → Int64} {nw df : Nat} {P : Nat → Nat} {x : Int32} : kll (mH h i l I J nw df P) 75 x = if kin x 200 then some (J 75 x.toNatClampNeg) else none := m_ll kd_75 (by decide)
theorem sd_75 {h : kH} {i : Nat → Nat → Int32} {l : Nat → Nat → Int64} {I : Nat → Nat → Int32} {J : Nat → Nat → Int64} {nw df : Nat} {P : Nat → Nat} {x : Int32} {v : Int64} : kls (mH h i l I J nw df P) 75 x v = if kin x 200 then some (mH h i l I (va_up J 75 (vp_updL (J 75) x.toNatClampNeg v)) nw df P) else none := m_ls kd_75 (by decide)
theorem ln_75 {h : kH} {i : Nat → Nat → Int32} {l : Nat → Nat → Int64} {I : Nat → Nat → Int32} {J : Nat → Nat → Int64} {nw df : Nat} {P : Nat → Nat} {a : Nat} (ha : a < 200) : kll (mH h i l I J nw df P) 75 (nI a) = some (J 75 a) := by rw [ld_75, if_pos (nI_kin ha (by decide)), nI_clamp (by omega)]
theorem sn_75 {h : kH} {i : Nat → Nat → Int32} {l : Nat → Nat → Int64} {I : Nat → Nat → Int32} {J : Nat → Nat → Int64} {nw df : Nat} {P : Nat → Nat} {a : Nat} {v : Int64} (ha : a < 200) : kls (mH h i l I J nw df P) 75 (nI a) v = some (mH h i l I (va_up J 75 (vp_updL (J 75) a v)) nw df P) := by rw [sd_75, if_pos (nI_kin ha (by decide)), nI_clamp (by omega)]
theorem ld_76 {h : kH} {i : Nat → Nat → Int32} {l : Nat → Nat → Int64} {I : Nat → Nat → Int32} {J : Nat → Nat → Int64} {nw df : Nat} {P : Nat → Nat} {x : Int32} : kll (mH h i l I J nw df P) 76 x = if kin x 200 then some (J 76 x.toNatClampNeg) else none := m_ll kd_76 (by decide)
theorem sd_76 {h : kH} {i : Nat → Nat → Int32} {l : Nat → Nat → Int64} {I : Nat → Nat → Int32} {J : Nat → Nat → Int64} {nw df : Nat} {P : Nat → Nat} {x : Int32} {v : Int64} : kls (mH h i l I J nw df P) 76 x v = if kin x 200 then some (mH h i l I (va_up J 76 (vp_updL (J 76) x.toNatClampNeg v)) nw df P) else none := m_ls kd_76 (by decide)
theorem ln_76 {h : kH} {i : Nat → Nat → Int32} {l : Nat → Nat → Int64} {I : Nat → Nat → Int32} {J : Nat → Nat → Int64} {nw df : Nat} {P : Nat → Nat} {a : Nat} (ha : a < 200) : kll (mH h i l I J nw df P) 76 (nI a) = some (J 76 a) := by rw [ld_76, if_pos (nI_kin ha (by decide)), nI_clamp (by omega)]
theorem sn_76 {h : kH} {i : Nat → Nat → Int32} {l : Nat → Nat → Int64} {I : Nat → Nat → Int32} {J : Nat → Nat → Int64} {nw df : Nat} {P : Nat → Nat} {a : Nat} {v : Int64} (ha : a < 200) : kls (mH h i l I J nw df P) 76 (nI a) v = some (mH h i l I (va_up J 76 (vp_updL (J 76) a v)) nw df P) := by rw [sd_76, if_pos (nI_kin ha (by decide)), nI_clamp (by omega)]
theorem ld_77 {h : kH} {i : Nat → Nat → Int32} {l : Nat → Nat → Int64} {I : Nat → Nat → Int32} {J : Nat → Nat → Int64} {nw df : Nat} {P : Nat → Nat} {x : Int32} : kil (mH h i l I J nw df P) 77 x = if kin x 200 then some (I 77 x.toNatClampNeg) else none := m_il kd_77 (by decide)
theorem sd_77 {h : kH} {i : Nat → Nat → Int32} {l : Nat → Nat → Int64} {I : Nat → Nat → Int32} {J : Nat → Nat → Int64} {nw df : Nat} {P : Nat → Nat} {x v : Int32} : kis_ (mH h i l I J nw df P) 77 x v = if kin x 200 then some (mH h i l (va_up I 77 (upd (I 77) x.toNatClampNeg v)) J nw df P) else none := m_is_ kd_77 (by decide)
theorem ln_77 {h : kH} {i : Nat → Nat → Int32} {l : Nat → Nat → Int64} {I : Nat → Nat → Int32} {J : Nat → Nat → Int64} {nw df : Nat} {P : Nat → Nat} {a : Nat} (ha : a < 200) : kil (mH h i l I J nw df P) 77 (nI a) = some (I 77 a) := by rw [ld_77, if_pos (nI_kin ha (by decide)), nI_clamp (by omega)]
theorem sn_77 {h : kH} {i : Nat → Nat → Int32} {l : Nat → Nat → Int64} {I : Nat → Nat → Int32} {J : Nat → Nat → Int64} {nw df : Nat} {P : Nat → Nat} {a : Nat} {v : Int32} (ha : a < 200) : kis_ (mH h i l I J nw df P) 77 (nI a) v = some (mH h i l (va_up I 77 (upd (I 77) a v)) J nw df P) := by rw [sd_77, if_pos (nI_kin ha (by decide)), nI_clamp (by omega)]
theorem ld_78 {h : kH} {i : Nat → Nat → Int32} {l : Nat → Nat → Int64} {I : Nat → Nat → Int32} {J : Nat → Nat → Int64} {nw df : Nat} {P : Nat → Nat} {x : Int32} : kll (mH h i l I J nw df P) 78 x = if kin x 200 then some (J 78 x.toNatClampNeg) else none := m_ll kd_78 (by decide)
theorem sd_78 {h : kH} {i : Nat → Nat → Int32} {l : Nat → Nat → Int64} {I : Nat → Nat → Int32} {J : Nat → Nat → Int64} {nw df : Nat} {P : Nat → Nat} {x : Int32} {v : Int64} : kls (mH h i l I J nw df P) 78 x v = if kin x 200 then some (mH h i l I (va_up J 78 (vp_updL (J 78) x.toNatClampNeg v)) nw df P) else none := m_ls kd_78 (by decide)
theorem ln_78 {h : kH} {i : Nat → Nat → Int32} {l : Nat → Nat → Int64} {I : Nat → Nat → Int32} {J : Nat → Nat → Int64} {nw df : Nat} {P : Nat → Nat} {a : Nat} (ha : a < 200) : kll (mH h i l I J nw df P) 78 (nI a) = some (J 78 a) := by rw [ld_78, if_pos (nI_kin ha (by decide)), nI_clamp (by omega)]
theorem sn_78 {h : kH} {i : Nat → Nat → Int32} {l : Nat → Nat → Int64} {I : Nat → Nat → Int32} {J : Nat → Nat → Int64} {nw df : Nat} {P : Nat → Nat} {a : Nat} {v : Int64} (ha : a < 200) : kls (mH h i l I J nw df P) 78 (nI a) v = some (mH h i l I (va_up J 78 (vp_updL (J 78) a v)) nw df P) := by rw [sd_78, if_pos (nI_kin ha (by decide)), nI_clamp (by omega)]
theorem ld_79 {h : kH} {i : Nat → Nat → Int32} {l : Nat → Nat → Int64} {I : Nat → Nat → Int32} {J : Nat → Nat → Int64} {nw df : Nat} {P : Nat → Nat} {x : Int32} : kll (mH h i l I J nw df P) 79 x = if kin x 200 then some (J 79 x.toNatClampNeg) else none := m_ll kd_79 (by decide)
theorem sd_79 {h : kH} {i : Nat → Nat → Int32} {l : Nat → Nat → Int64} {I : Nat → Nat → Int32} {J : Nat → Nat → Int64} {nw df : Nat} {P : Nat → Nat} {x : Int32} {v : Int64} : kls (mH h i l I J nw df P) 79 x v = if kin x 200 then some (mH h i l I (va_up J 79 (vp_updL (J 79) x.toNatClampNeg v)) nw df P) else none := m_ls kd_79 (by decide)
theorem ln_79 {h : kH} {i : Nat → Nat → Int32} {l : Nat → Nat → Int64} {I : Nat → Nat → Int32} {J : Nat → Nat → Int64} {nw df : Nat} {P : Nat → Nat} {a : Nat} (ha : a < 200) : kll (mH h i l I J nw df P) 79 (nI a) = some (J 79 a) := by rw [ld_79, if_pos (nI_kin ha (by decide)), nI_clamp (by omega)]
theorem sn_79 {h : kH} {i : Nat → Nat → Int32} {l : Nat → Nat → Int64} {I : Nat → Nat → Int32} {J : Nat → Nat → Int64} {nw df : Nat} {P : Nat → Nat} {a : Nat} {v : Int64} (ha : a < 200) : kls (mH h i l I J nw df P) 79 (nI a) v = some (mH h i l I (va_up J 79 (vp_updL (J 79) a v)) nw df P) := by rw [sd_79, if_pos (nI_kin ha (by decide)), nI_clamp (by omega)]
theorem is_80 {h : kH} {i : Nat → Nat → Int32} {l : Nat → Nat → Int64} {I : Nat → Nat → Int32} {J : Nat → Nat → Int64} {nw df : Nat} {P : Nat → Nat} : kis (mH h i l I J nw df P) 1 80 = true := m_is kd_80 (by decide) (by decide)
theorem ld_81 {h : kH} {i : Nat → Nat → Int32} {l : Nat → Nat → Int64} {I : Nat → Nat → Int32} {J : Nat → Nat → Int64} {nw df : Nat} {P : Nat → Nat} {x : Int32} : kil (mH h i l I J nw df P) 81 x = if kin x 200 then some (I 81 x.toNatClampNeg) else none := m_il kd_81 (by decide)
theorem sd_81 {h : kH} {i : Nat → Nat → Int32} {l : Nat → Nat → Int64} {I : Nat → Nat → Int32} {J : Nat → Nat → Int64} {nw df : Nat} {P : Nat → Nat} {x v : Int32} : kis_ (mH h i l I J nw df P) 81 x v = if kin x 200 then some (mH h i l (va_up I 81 (upd (I 81) x.toNatClampNeg v)) J nw df P) else none := m_is_ kd_81 (by decide)
theorem ln_81 {h : kH} {i : Nat → Nat → Int32} {l : Nat → Nat → Int64} {I : Nat → Nat → Int32} {J : Nat → Nat → Int64} {nw df : Nat} {P : Nat → Nat} {a : Nat} (ha : a < 200) : kil (mH h i l I J nw df P) 81 (nI a) = some (I 81 a) := by rw [ld_81, if_pos (nI_kin ha (by decide)), nI_clamp (by omega)]
theorem sn_81 {h : kH} {i : Nat → Nat → Int32} {l : Nat → Nat → Int64} {I : Nat → Nat → Int32} {J : Nat → Nat → Int64} {nw df : Nat} {P : Nat → Nat} {a : Nat} {v : Int32} (ha : a < 200) : kis_ (mH h i l I J nw df P) 81 (nI a) v = some (mH h i l (va_up I 81 (upd (I 81) a v)) J nw df P) := by rw [sd_81, if_pos (nI_kin ha (by decide)), nI_clamp (by omega)]
theorem ld_82 {h : kH} {i : Nat → Nat → Int32} {l : Nat → Nat → Int64} {I : Nat → Nat → Int32} {J : Nat → Nat → Int64} {nw df : Nat} {P : Nat → Nat} {x : Int32} : kil (mH h i l I J nw df P) 82 x = if kin x 200 then some (I 82 x.toNatClampNeg) else none := m_il kd_82 (by decide)
theorem sd_82 {h : kH} {i : Nat → Nat → Int32} {l : Nat → Nat → Int64} {I : Nat → Nat → Int32} {J : Nat → Nat → Int64} {nw df : Nat} {P : Nat → Nat} {x v : Int32} : kis_ (mH h i l I J nw df P) 82 x v = if kin x 200 then some (mH h i l (va_up I 82 (upd (I 82) x.toNatClampNeg v)) J nw df P) else none := m_is_ kd_82 (by decide)
theorem ln_82 {h : kH} {i : Nat → Nat → Int32} {l : Nat → Nat → Int64} {I : Nat → Nat → Int32} {J : Nat → Nat → Int64} {nw df : Nat} {P : Nat → Nat} {a : Nat} (ha : a < 200) : kil (mH h i l I J nw df P) 82 (nI a) = some (I 82 a) := by rw [ld_82, if_pos (nI_kin ha (by decide)), nI_clamp (by omega)]
theorem sn_82 {h : kH} {i : Nat → Nat → Int32} {l : Nat → Nat → Int64} {I : Nat → Nat → Int32} {J : Nat → Nat → Int64} {nw df : Nat} {P : Nat → Nat} {a : Nat} {v : Int32} (ha : a < 200) : kis_ (mH h i l I J nw df P) 82 (nI a) v = some (mH h i l (va_up I 82 (upd (I 82) a v)) J nw df P) := by rw [sd_82, if_pos (nI_kin ha (by decide)), nI_clamp (by omega)]
theorem ld_83 {h : kH} {i : Nat → Nat → Int32} {l : Nat → Nat → Int64} {I : Nat → Nat → Int32} {J : Nat → Nat → Int64} {nw df : Nat} {P : Nat → Nat} {x : Int32} : kil (mH h i l I J nw df P) 83 x = if kin x 200 then some (I 83 x.toNatClampNeg) else none := m_il kd_83 (by decide)
theorem sd_83 {h : kH} {i : Nat → Nat → Int32} {l : Nat → Nat → Int64} {I : Nat → Nat → Int32} {J : Nat → Nat → Int64} {nw df : Nat} {P : Nat → Nat} {x v : Int32} : kis_ (mH h i l I J nw df P) 83 x v = if kin x 200 then some (mH h i l (va_up I 83 (upd (I 83) x.toNatClampNeg v)) J nw df P) else none := m_is_ kd_83 (by decide)
theorem ln_83 {h : kH} {i : Nat → Nat → Int32} {l : Nat → Nat → Int64} {I : Nat → Nat → Int32} {J : Nat → Nat → Int64} {nw df : Nat} {P : Nat → Nat} {a : Nat} (ha : a < 200) : kil (mH h i l I J nw df P) 83 (nI a) = some (I 83 a) := by rw [ld_83, if_pos (nI_kin ha (by decide)), nI_clamp (by omega)]
theorem sn_83 {h : kH} {i : Nat → Nat → Int32} {l : Nat → Nat → Int64} {I : Nat → Nat → Int32} {J : Nat → Nat → Int64} {nw df : Nat} {P : Nat → Nat} {a : Nat} {v : Int32} (ha : a < 200) : kis_ (mH h i l I J nw df P) 83 (nI a) v = some (mH h i l (va_up I 83 (upd (I 83) a v)) J nw df P) := by rw [sd_83, if_pos (nI_kin ha (by decide)), nI_clamp (by omega)]
theorem ld_84 {h : kH} {i : Nat → Nat → Int32} {l : Nat → Nat → Int64} {I : Nat → Nat → Int32} {J : Nat → Nat → Int64} {nw df : Nat} {P : Nat → Nat} {x : Int32} : kll (mH h i l I J nw df P) 84 x = if kin x 200 then some (J 84 x.toNatClampNeg) else none := m_ll kd_84 (by decide)
theorem sd_84 {h : kH} {i : Nat → Nat → Int32} {l : Nat → Nat → Int64} {I : Nat → Nat → Int32} {J : Nat → Nat → Int64} {nw df : Nat} {P : Nat → Nat} {x : Int32} {v : Int64} : kls (mH h i l I J nw df P) 84 x v = if kin x 200 then some (mH h i l I (va_up J 84 (vp_updL (J 84) x.toNatClampNeg v)) nw df P) else none := m_ls kd_84 (by decide)
theorem ln_84 {h : kH} {i : Nat → Nat → Int32} {l : Nat → Nat → Int64} {I : Nat → Nat → Int32} {J : Nat → Nat → Int64} {nw df : Nat} {P : Nat → Nat} {a : Nat} (ha : a < 200) : kll (mH h i l I J nw df P) 84 (nI a) = some (J 84 a) := by rw [ld_84, if_pos (nI_kin ha (by decide)), nI_clamp (by omega)]
theorem sn_84 {h : kH} {i : Nat → Nat → Int32} {l : Nat → Nat → Int64} {I : Nat → Nat → Int32} {J : Nat → Nat → Int64} {nw df : Nat} {P : Nat → Nat} {a : Nat} {v : Int64} (ha : a < 200) : kls (mH h i l I J nw df P) 84 (nI a) v = some (mH h i l I (va_up J 84 (vp_updL (J 84) a v)) nw df P) := by rw [sd_84, if_pos (nI_kin ha (by decide)), nI_clamp (by omega)]
theorem is_85 {h : kH} {i : Nat → Nat → Int32} {l : Nat → Nat → Int64} {I : Nat → Nat → Int32} {J : Nat → Nat → Int64} {nw df : Nat} {P : Nat → Nat} : kis (mH h i l I J nw df P) 4 85 = true := m_is kd_85 (by decide) (by decide)
theorem ld_86 {h : kH} {i : Nat → Nat → Int32} {l : Nat → Nat → Int64} {I : Nat → Nat → Int32} {J : Nat → Nat → Int64} {nw df : Nat} {P : Nat → Nat} {x : Int32} : kll (mH h i l I J nw df P) 86 x = if kin x 800 then some (J 86 x.toNatClampNeg) else none := m_ll kd_86 (by decide)
theorem sd_86 {h : kH} {i : Nat → Nat → Int32} {l : Nat → Nat → Int64} {I : Nat → Nat → Int32} {J : Nat → Nat → Int64} {nw df : Nat} {P : Nat → Nat} {x : Int32} {v : Int64} : kls (mH h i l I J nw df P) 86 x v = if kin x 800 then some (mH h i l I (va_up J 86 (vp_updL (J 86) x.toNatClampNeg v)) nw df P) else none := m_ls kd_86 (by decide)
theorem ln_86 {h : kH} {i : Nat → Nat → Int32} {l : Nat → Nat → Int64} {I : Nat → Nat → Int32} {J : Nat → Nat → Int64} {nw df : Nat} {P : Nat → Nat} {a : Nat} (ha : a < 800) : kll (mH h i l I J nw df P) 86 (nI a) = some (J 86 a) := by rw [ld_86, if_pos (nI_kin ha (by decide)), nI_clamp (by omega)]
theorem sn_86 {h : kH} {i : Nat → Nat → Int32} {l : Nat → Nat → Int64} {I : Nat → Nat → Int32} {J : Nat → Nat → Int64} {nw df : Nat} {P : Nat → Nat} {a : Nat} {v : Int64} (ha : a < 800) : kls (mH h i l I J nw df P) 86 (nI a) v = some (mH h i l I (va_up J 86 (vp_updL (J 86) a v)) nw df P) := by rw [sd_86, if_pos (nI_kin ha (by decide)), nI_clamp (by omega)]
theorem ld_87 {h : kH} {i : Nat → Nat → Int32} {l : Nat → Nat → Int64} {I : Nat → Nat → Int32} {J : Nat → Nat → Int64} {nw df : Nat} {P : Nat → Nat} {x : Int32} : kil (mH h i l I J nw df P) 87 x = if kin x 200 then some (I 87 x.toNatClampNeg) else none := m_il kd_87 (by decide)
theorem sd_87 {h : kH} {i : Nat → Nat → Int32} {l : Nat → Nat → Int64} {I : Nat → Nat → Int32} {J : Nat → Nat → Int64} {nw df : Nat} {P : Nat → Nat} {x v : Int32} : kis_ (mH h i l I J nw df P) 87 x v = if kin x 200 then some (mH h i l (va_up I 87 (upd (I 87) x.toNatClampNeg v)) J nw df P) else none := m_is_ kd_87 (by decide)
theorem ln_87 {h : kH} {i : Nat → Nat → Int32} {l : Nat → Nat → Int64} {I : Nat → Nat → Int32} {J : Nat → Nat → Int64} {nw df : Nat} {P : Nat → Nat} {a : Nat} (ha : a < 200) : kil (mH h i l I J nw df P) 87 (nI a) = some (I 87 a) := by rw [ld_87, if_pos (nI_kin ha (by decide)), nI_clamp (by omega)]
theorem sn_87 {h : kH} {i : Nat → Nat → Int32} {l : Nat → Nat → Int64} {I : Nat → Nat → Int32} {J : Nat → Nat → Int64} {nw df : Nat} {P : Nat → Nat} {a : Nat} {v : Int32} (ha : a < 200) : kis_ (mH h i l I J nw df P) 87 (nI a) v = some (mH h i l (va_up I 87 (upd (I 87) a v)) J nw df P) := by rw [sd_87, if_pos (nI_kin ha (by decide)), nI_clamp (by omega)]
theorem is_88 {h : kH} {i : Nat → Nat → Int32} {l : Nat → Nat → Int64} {I : Nat → Nat → Int32} {J : Nat → Nat → Int64} {nw df : Nat} {P : Nat → Nat} : kis (mH h i l I J nw df P) 4 88 = true := m_is kd_88 (by decide) (by decide)
theorem ld_89 {h : kH} {i : Nat → Nat → Int32} {l : Nat → Nat → Int64} {I : Nat → Nat → Int32} {J : Nat → Nat → Int64} {nw df : Nat} {P : Nat → Nat} {x : Int32} : kll (mH h i l I J nw df P) 89 x = if kin x 800 then some (J 89 x.toNatClampNeg) else none := m_ll kd_89 (by decide)
theorem sd_89 {h : kH} {i : Nat → Nat → Int32} {l : Nat → Nat → Int64} {I : Nat → Nat → Int32} {J : Nat → Nat → Int64} {nw df : Nat} {P : Nat → Nat} {x : Int32} {v : Int64} : kls (mH h i l I J nw df P) 89 x v = if kin x 800 then some (mH h i l I (va_up J 89 (vp_updL (J 89) x.toNatClampNeg v)) nw df P) else none := m_ls kd_89 (by decide)
theorem ln_89 {h : kH} {i : Nat → Nat → Int32} {l : Nat → Nat → Int64} {I : Nat → Nat → Int32} {J : Nat → Nat → Int64} {nw df : Nat} {P : Nat → Nat} {a : Nat} (ha : a < 800) : kll (mH h i l I J nw df P) 89 (nI a) = some (J 89 a) := by rw [ld_89, if_pos (nI_kin ha (by decide)), nI_clamp (by omega)]
theorem sn_89 {h : kH} {i : Nat → Nat → Int32} {l : Nat → Nat → Int64} {I : Nat → Nat → Int32} {J : Nat → Nat → Int64} {nw df : Nat} {P : Nat → Nat} {a : Nat} {v : Int64} (ha : a < 800) : kls (mH h i l I J nw df P) 89 (nI a) v = some (mH h i l I (va_up J 89 (vp_updL (J 89) a v)) nw df P) := by rw [sd_89, if_pos (nI_kin ha (by decide)), nI_clamp (by omega)]
theorem ld_90 {h : kH} {i : Nat → Nat → Int32} {l : Nat → Nat → Int64} {I : Nat → Nat → Int32} {J : Nat → Nat → Int64} {nw df : Nat} {P : Nat → Nat} {x : Int32} : kil (mH h i l I J nw df P) 90 x = if kin x 200 then some (I 90 x.toNatClampNeg) else none := m_il kd_90 (by decide)
theorem sd_90 {h : kH} {i : Nat → Nat → Int32} {l : Nat → Nat → Int64} {I : Nat → Nat → Int32} {J : Nat → Nat → Int64} {nw df : Nat} {P : Nat → Nat} {x v : Int32} : kis_ (mH h i l I J nw df P) 90 x v = if kin x 200 then some (mH h i l (va_up I 90 (upd (I 90) x.toNatClampNeg v)) J nw df P) else none := m_is_ kd_90 (by decide)
theorem ln_90 {h : kH} {i : Nat → Nat → Int32} {l : Nat → Nat → Int64} {I : Nat → Nat → Int32} {J : Nat → Nat → Int64} {nw df : Nat} {P : Nat → Nat} {a : Nat} (ha : a < 200) : kil (mH h i l I J nw df P) 90 (nI a) = some (I 90 a) := by rw [ld_90, if_pos (nI_kin ha (by decide)), nI_clamp (by omega)]
theorem sn_90 {h : kH} {i : Nat → Nat → Int32} {l : Nat → Nat → Int64} {I : Nat → Nat → Int32} {J : Nat → Nat → Int64} {nw df : Nat} {P : Nat → Nat} {a : Nat} {v : Int32} (ha : a < 200) : kis_ (mH h i l I J nw df P) 90 (nI a) v = some (mH h i l (va_up I 90 (upd (I 90) a v)) J nw df P) := by rw [sd_90, if_pos (nI_kin ha (by decide)), nI_clamp (by omega)]
theorem is_91 {h : kH} {i : Nat → Nat → Int32} {l : Nat → Nat → Int64} {I : Nat → Nat → Int32} {J : Nat → Nat → Int64} {nw df : Nat} {P : Nat → Nat} : kis (mH h i l I J nw df P) 11 91 = true := m_is kd_91 (by decide) (by decide)
theorem ld_92 {h : kH} {i : Nat → Nat → Int32} {l : Nat → Nat → Int64} {I : Nat → Nat → Int32} {J : Nat → Nat → Int64} {nw df : Nat} {P : Nat → Nat} {x : Int32} : kbl (mH h i l I J nw df P) 92 x = if kin x 5 then some (I 92 x.toNatClampNeg) else none := m_zl kd_92 (by decide)
theorem sd_92 {h : kH} {i : Nat → Nat → Int32} {l : Nat → Nat → Int64} {I : Nat → Nat → Int32} {J : Nat → Nat → Int64} {nw df : Nat} {P : Nat → Nat} {x v : Int32} : kbs (mH h i l I J nw df P) 92 x v = if kin x 5 then some (mH h i l (va_up I 92 (upd (I 92) x.toNatClampNeg (vp_nar .boolean v))) J nw df P) else none := m_zs kd_92 (by decide)
theorem ln_92 {h : kH} {i : Nat → Nat → Int32} {l : Nat → Nat → Int64} {I : Nat → Nat → Int32} {J : Nat → Nat → Int64} {nw df : Nat} {P : Nat → Nat} {a : Nat} (ha : a < 5) : kbl (mH h i l I J nw df P) 92 (nI a) = some (I 92 a) := by rw [ld_92, if_pos (nI_kin ha (by decide)), nI_clamp (by omega)]
theorem sn_92 {h : kH} {i : Nat → Nat → Int32} {l : Nat → Nat → Int64} {I : Nat → Nat → Int32} {J : Nat → Nat → Int64} {nw df : Nat} {P : Nat → Nat} {a : Nat} {v : Int32} (ha : a < 5) : kbs (mH h i l I J nw df P) 92 (nI a) v = some (mH h i l (va_up I 92 (upd (I 92) a (vp_nar .boolean v))) J nw df P) := by rw [sd_92, if_pos (nI_kin ha (by decide)), nI_clamp (by omega)]
theorem ld_93 {h : kH} {i : Nat → Nat → Int32} {l : Nat → Nat → Int64} {I : Nat → Nat → Int32} {J : Nat → Nat → Int64} {nw df : Nat} {P : Nat → Nat} {x : Int32} : kil (mH h i l I J nw df P) 93 x = if kin x 5 then some (I 93 x.toNatClampNeg) else none := m_il kd_93 (by decide)
theorem sd_93 {h : kH} {i : Nat → Nat → Int32} {l : Nat → Nat → Int64} {I : Nat → Nat → Int32} {J : Nat → Nat → Int64} {nw df : Nat} {P : Nat → Nat} {x v : Int32} : kis_ (mH h i l I J nw df P) 93 x v = if kin x 5 then some (mH h i l (va_up I 93 (upd (I 93) x.toNatClampNeg v)) J nw df P) else none := m_is_ kd_93 (by decide)
theorem ln_93 {h : kH} {i : Nat → Nat → Int32} {l : Nat → Nat → Int64} {I : Nat → Nat → Int32} {J : Nat → Nat → Int64} {nw df : Nat} {P : Nat → Nat} {a : Nat} (ha : a < 5) : kil (mH h i l I J nw df P) 93 (nI a) = some (I 93 a) := by rw [ld_93, if_pos (nI_kin ha (by decide)), nI_clamp (by omega)]
theorem sn_93 {h : kH} {i : Nat → Nat → Int32} {l : Nat → Nat → Int64} {I : Nat → Nat → Int32} {J : Nat → Nat → Int64} {nw df : Nat} {P : Nat → Nat} {a : Nat} {v : Int32} (ha : a < 5) : kis_ (mH h i l I J nw df P) 93 (nI a) v = some (mH h i l (va_up I 93 (upd (I 93) a v)) J nw df P) := by rw [sd_93, if_pos (nI_kin ha (by decide)), nI_clamp (by omega)]
theorem ld_94 {h : kH} {i : Nat → Nat → Int32} {l : Nat → Nat → Int64} {I : Nat → Nat → Int32} {J : Nat → Nat → Int64} {nw df : Nat} {P : Nat → Nat} {x : Int32} : kil (mH h i l I J nw df P) 94 x = if kin x 5 then some (I 94 x.toNatClampNeg) else none := m_il kd_94 (by decide)
theorem sd_94 {h : kH} {i : Nat → Nat → Int32} {l : Nat → Nat → Int64} {I : Nat → Nat → Int32} {J : Nat → Nat → Int64} {nw df : Nat} {P : Nat → Nat} {x v : Int32} : kis_ (mH h i l I J nw df P) 94 x v = if kin x 5 then some (mH h i l (va_up I 94 (upd (I 94) x.toNatClampNeg v)) J nw df P) else none := m_is_ kd_94 (by decide)
theorem ln_94 {h : kH} {i : Nat → Nat → Int32} {l : Nat → Nat → Int64} {I : Nat → Nat → Int32} {J : Nat → Nat → Int64} {nw df : Nat} {P : Nat → Nat} {a : Nat} (ha : a < 5) : kil (mH h i l I J nw df P) 94 (nI a) = some (I 94 a) := by rw [ld_94, if_pos (nI_kin ha (by decide)), nI_clamp (by omega)]
theorem sn_94 {h : kH} {i : Nat → Nat → Int32} {l : Nat → Nat → Int64} {I : Nat → Nat → Int32} {J : Nat → Nat → Int64} {nw df : Nat} {P : Nat → Nat} {a : Nat} {v : Int32} (ha : a < 5) : kis_ (mH h i l I J nw df P) 94 (nI a) v = some (mH h i l (va_up I 94 (upd (I 94) a v)) J nw df P) := by rw [sd_94, if_pos (nI_kin ha (by decide)), nI_clamp (by omega)]
theorem ld_95 {h : kH} {i : Nat → Nat → Int32} {l : Nat → Nat → Int64} {I : Nat → Nat → Int32} {J : Nat → Nat → Int64} {nw df : Nat} {P : Nat → Nat} {x : Int32} : kil (mH h i l I J nw df P) 95 x = if kin x 5 then some (I 95 x.toNatClampNeg) else none := m_il kd_95 (by decide)
theorem sd_95 {h : kH} {i : Nat → Nat → Int32} {l : Nat → Nat → Int64} {I : Nat → Nat → Int32} {J : Nat → Nat → Int64} {nw df : Nat} {P : Nat → Nat} {x v : Int32} : kis_ (mH h i l I J nw df P) 95 x v = if kin x 5 then some (mH h i l (va_up I 95 (upd (I 95) x.toNatClampNeg v)) J nw df P) else none := m_is_ kd_95 (by decide)
theorem ln_95 {h : kH} {i : Nat → Nat → Int32} {l : Nat → Nat → Int64} {I : Nat → Nat → Int32} {J : Nat → Nat → Int64} {nw df : Nat} {P : Nat → Nat} {a : Nat} (ha : a < 5) : kil (mH h i l I J nw df P) 95 (nI a) = some (I 95 a) := by rw [ld_95, if_pos (nI_kin ha (by decide)), nI_clamp (by omega)]
theorem sn_95 {h : kH} {i : Nat → Nat → Int32} {l : Nat → Nat → Int64} {I : Nat → Nat → Int32} {J : Nat → Nat → Int64} {nw df : Nat} {P : Nat → Nat} {a : Nat} {v : Int32} (ha : a < 5) : kis_ (mH h i l I J nw df P) 95 (nI a) v = some (mH h i l (va_up I 95 (upd (I 95) a v)) J nw df P) := by rw [sd_95, if_pos (nI_kin ha (by decide)), nI_clamp (by omega)]
theorem ld_96 {h : kH} {i : Nat → Nat → Int32} {l : Nat → Nat → Int64} {I : Nat → Nat → Int32} {J : Nat → Nat → Int64} {nw df : Nat} {P : Nat → Nat} {x : Int32} : kil (mH h i l I J nw df P) 96 x = if kin x 30 then some (I 96 x.toNatClampNeg) else none := m_il kd_96 (by decide)
theorem sd_96 {h : kH} {i : Nat → Nat → Int32} {l : Nat → Nat → Int64} {I : Nat → Nat → Int32} {J : Nat → Nat → Int64} {nw df : Nat} {P : Nat → Nat} {x v : Int32} : kis_ (mH h i l I J nw df P) 96 x v = if kin x 30 then some (mH h i l (va_up I 96 (upd (I 96) x.toNatClampNeg v)) J nw df P) else none := m_is_ kd_96 (by decide)
theorem ln_96 {h : kH} {i : Nat → Nat → Int32} {l : Nat → Nat → Int64} {I : Nat → Nat → Int32} {J : Nat → Nat → Int64} {nw df : Nat} {P : Nat → Nat} {a : Nat} (ha : a < 30) : kil (mH h i l I J nw df P) 96 (nI a) = some (I 96 a) := by rw [ld_96, if_pos (nI_kin ha (by decide)), nI_clamp (by omega)]
theorem sn_96 {h : kH} {i : Nat → Nat → Int32} {l : Nat → Nat → Int64} {I : Nat → Nat → Int32} {J : Nat → Nat → Int64} {nw df : Nat} {P : Nat → Nat} {a : Nat} {v : Int32} (ha : a < 30) : kis_ (mH h i l I J nw df P) 96 (nI a) v = some (mH h i l (va_up I 96 (upd (I 96) a v)) J nw df P) := by rw [sd_96, if_pos (nI_kin ha (by decide)), nI_clamp (by omega)]
theorem is_97 {h : kH} {i : Nat → Nat → Int32} {l : Nat → Nat → Int64} {I : Nat → Nat → Int32} {J : Nat → Nat → Int64} {nw df : Nat} {P : Nat → Nat} : kis (mH h i l I J nw df P) 11 97 = true := m_is kd_97 (by decide) (by decide)
theorem ld_98 {h : kH} {i : Nat → Nat → Int32} {l : Nat → Nat → Int64} {I : Nat → Nat → Int32} {J : Nat → Nat → Int64} {nw df : Nat} {P : Nat → Nat} {x : Int32} : kbl (mH h i l I J nw df P) 98 x = if kin x 5 then some (I 98 x.toNatClampNeg) else none := m_zl kd_98 (by decide)
theorem sd_98 {h : kH} {i : Nat → Nat → Int32} {l : Nat → Nat → Int64} {I : Nat → Nat → Int32} {J : Nat → Nat → Int64} {nw df : Nat} {P : Nat → Nat} {x v : Int32} : kbs (mH h i l I J nw df P) 98 x v = if kin x 5 then some (mH h i l (va_up I 98 (upd (I 98) x.toNatClampNeg (vp_nar .boolean v))) J nw df P) else none := m_zs kd_98 (by decide)
theorem ln_98 {h : kH} {i : Nat → Nat → Int32} {l : Nat → Nat → Int64} {I : Nat → Nat → Int32} {J : Nat → Nat → Int64} {nw df : Nat} {P : Nat → Nat} {a : Nat} (ha : a < 5) : kbl (mH h i l I J nw df P) 98 (nI a) = some (I 98 a) := by rw [ld_98, if_pos (nI_kin ha (by decide)), nI_clamp (by omega)]
theorem sn_98 {h : kH} {i : Nat → Nat → Int32} {l : Nat → Nat → Int64} {I : Nat → Nat → Int32} {J : Nat → Nat → Int64} {nw df : Nat} {P : Nat → Nat} {a : Nat} {v : Int32} (ha : a < 5) : kbs (mH h i l I J nw df P) 98 (nI a) v = some (mH h i l (va_up I 98 (upd (I 98) a (vp_nar .boolean v))) J nw df P) := by rw [sd_98, if_pos (nI_kin ha (by decide)), nI_clamp (by omega)]
theorem ld_99 {h : kH} {i : Nat → Nat → Int32} {l : Nat → Nat → Int64} {I : Nat → Nat → Int32} {J : Nat → Nat → Int64} {nw df : Nat} {P : Nat → Nat} {x : Int32} : kil (mH h i l I J nw df P) 99 x = if kin x 5 then some (I 99 x.toNatClampNeg) else none := m_il kd_99 (by decide)
theorem sd_99 {h : kH} {i : Nat → Nat → Int32} {l : Nat → Nat → Int64} {I : Nat → Nat → Int32} {J : Nat → Nat → Int64} {nw df : Nat} {P : Nat → Nat} {x v : Int32} : kis_ (mH h i l I J nw df P) 99 x v = if kin x 5 then some (mH h i l (va_up I 99 (upd (I 99) x.toNatClampNeg v)) J nw df P) else none := m_is_ kd_99 (by decide)
theorem ln_99 {h : kH} {i : Nat → Nat → Int32} {l : Nat → Nat → Int64} {I : Nat → Nat → Int32} {J : Nat → Nat → Int64} {nw df : Nat} {P : Nat → Nat} {a : Nat} (ha : a < 5) : kil (mH h i l I J nw df P) 99 (nI a) = some (I 99 a) := by rw [ld_99, if_pos (nI_kin ha (by decide)), nI_clamp (by omega)]
theorem sn_99 {h : kH} {i : Nat → Nat → Int32} {l : Nat → Nat → Int64} {I : Nat → Nat → Int32} {J : Nat → Nat → Int64} {nw df : Nat} {P : Nat → Nat} {a : Nat} {v : Int32} (ha : a < 5) : kis_ (mH h i l I J nw df P) 99 (nI a) v = some (mH h i l (va_up I 99 (upd (I 99) a v)) J nw df P) := by rw [sd_99, if_pos (nI_kin ha (by decide)), nI_clamp (by omega)]
theorem ld_100 {h : kH} {i : Nat → Nat → Int32} {l : Nat → Nat → Int64} {I : Nat → Nat → Int32} {J : Nat → Nat → Int64} {nw df : Nat} {P : Nat → Nat} {x : Int32} : kil (mH h i l I J nw df P) 100 x = if kin x 5 then some (I 100 x.toNatClampNeg) else none := m_il kd_100 (by decide)
theorem sd_100 {h : kH} {i : Nat → Nat → Int32} {l : Nat → Nat → Int64} {I : Nat → Nat → Int32} {J : Nat → Nat → Int64} {nw df : Nat} {P : Nat → Nat} {x v : Int32} : kis_ (mH h i l I J nw df P) 100 x v = if kin x 5 then some (mH h i l (va_up I 100 (upd (I 100) x.toNatClampNeg v)) J nw df P) else none := m_is_ kd_100 (by decide)
theorem ln_100 {h : kH} {i : Nat → Nat → Int32} {l : Nat → Nat → Int64} {I : Nat → Nat → Int32} {J : Nat → Nat → Int64} {nw df : Nat} {P : Nat → Nat} {a : Nat} (ha : a < 5) : kil (mH h i l I J nw df P) 100 (nI a) = some (I 100 a) := by rw [ld_100, if_pos (nI_kin ha (by decide)), nI_clamp (by omega)]
theorem sn_100 {h : kH} {i : Nat → Nat → Int32} {l : Nat → Nat → Int64} {I : Nat → Nat → Int32} {J : Nat → Nat → Int64} {nw df : Nat} {P : Nat → Nat} {a : Nat} {v : Int32} (ha : a < 5) : kis_ (mH h i l I J nw df P) 100 (nI a) v = some (mH h i l (va_up I 100 (upd (I 100) a v)) J nw df P) := by rw [sd_100, if_pos (nI_kin ha (by decide)), nI_clamp (by omega)]
theorem ld_101 {h : kH} {i : Nat → Nat → Int32} {l : Nat → Nat → Int64} {I : Nat → Nat → Int32} {J : Nat → Nat → Int64} {nw df : Nat} {P : Nat → Nat} {x : Int32} : kil (mH h i l I J nw df P) 101 x = if kin x 5 then some (I 101 x.toNatClampNeg) else none := m_il kd_101 (by decide)
theorem sd_101 {h : kH} {i : Nat → Nat → Int32} {l : Nat → Nat → Int64} {I : Nat → Nat → Int32} {J : Nat → Nat → Int64} {nw df : Nat} {P : Nat → Nat} {x v : Int32} : kis_ (mH h i l I J nw df P) 101 x v = if kin x 5 then some (mH h i l (va_up I 101 (upd (I 101) x.toNatClampNeg v)) J nw df P) else none := m_is_ kd_101 (by decide)
theorem ln_101 {h : kH} {i : Nat → Nat → Int32} {l : Nat → Nat → Int64} {I : Nat → Nat → Int32} {J : Nat → Nat → Int64} {nw df : Nat} {P : Nat → Nat} {a : Nat} (ha : a < 5) : kil (mH h i l I J nw df P) 101 (nI a) = some (I 101 a) := by rw [ld_101, if_pos (nI_kin ha (by decide)), nI_clamp (by omega)]
theorem sn_101 {h : kH} {i : Nat → Nat → Int32} {l : Nat → Nat → Int64} {I : Nat → Nat → Int32} {J : Nat → Nat → Int64} {nw df : Nat} {P : Nat → Nat} {a : Nat} {v : Int32} (ha : a < 5) : kis_ (mH h i l I J nw df P) 101 (nI a) v = some (mH h i l (va_up I 101 (upd (I 101) a v)) J nw df P) := by rw [sd_101, if_pos (nI_kin ha (by decide)), nI_clamp (by omega)]
theorem ld_102 {h : kH} {i : Nat → Nat → Int32} {l : Nat → Nat → Int64} {I : Nat → Nat → Int32} {J : Nat → Nat → Int64} {nw df : Nat} {P : Nat → Nat} {x : Int32} : kil (mH h i l I J nw df P) 102 x = if kin x 30 then some (I 102 x.toNatClampNeg) else none := m_il kd_102 (by decide)
theorem sd_102 {h : kH} {i : Nat → Nat → Int32} {l : Nat → Nat → Int64} {I : Nat → Nat → Int32} {J : Nat → Nat → Int64} {nw df : Nat} {P : Nat → Nat} {x v : Int32} : kis_ (mH h i l I J nw df P) 102 x v = if kin x 30 then some (mH h i l (va_up I 102 (upd (I 102) x.toNatClampNeg v)) J nw df P) else none := m_is_ kd_102 (by decide)
theorem ln_102 {h : kH} {i : Nat → Nat → Int32} {l : Nat → Nat → Int64} {I : Nat → Nat → Int32} {J : Nat → Nat → Int64} {nw df : Nat} {P : Nat → Nat} {a : Nat} (ha : a < 30) : kil (mH h i l I J nw df P) 102 (nI a) = some (I 102 a) := by rw [ld_102, if_pos (nI_kin ha (by decide)), nI_clamp (by omega)]
theorem sn_102 {h : kH} {i : Nat → Nat → Int32} {l : Nat → Nat → Int64} {I : Nat → Nat → Int32} {J : Nat → Nat → Int64} {nw df : Nat} {P : Nat → Nat} {a : Nat} {v : Int32} (ha : a < 30) : kis_ (mH h i l I J nw df P) 102 (nI a) v = some (mH h i l (va_up I 102 (upd (I 102) a v)) J nw df P) := by rw [sd_102, if_pos (nI_kin ha (by decide)), nI_clamp (by omega)]
theorem ld_103 {h : kH} {i : Nat → Nat → Int32} {l : Nat → Nat → Int64} {I : Nat → Nat → Int32} {J : Nat → Nat → Int64} {nw df : Nat} {P : Nat → Nat} {x : Int32} : kil (mH h i l I J nw df P) 103 x = if kin x 8 then some (I 103 x.toNatClampNeg) else none := m_il kd_103 (by decide)
theorem sd_103 {h : kH} {i : Nat → Nat → Int32} {l : Nat → Nat → Int64} {I : Nat → Nat → Int32} {J : Nat → Nat → Int64} {nw df : Nat} {P : Nat → Nat} {x v : Int32} : kis_ (mH h i l I J nw df P) 103 x v = if kin x 8 then some (mH h i l (va_up I 103 (upd (I 103) x.toNatClampNeg v)) J nw df P) else none := m_is_ kd_103 (by decide)
theorem ln_103 {h : kH} {i : Nat → Nat → Int32} {l : Nat → Nat → Int64} {I : Nat → Nat → Int32} {J : Nat → Nat → Int64} {nw df : Nat} {P : Nat → Nat} {a : Nat} (ha : a < 8) : kil (mH h i l I J nw df P) 103 (nI a) = some (I 103 a) := by rw [ld_103, if_pos (nI_kin ha (by decide)), nI_clamp (by omega)]
theorem sn_103 {h : kH} {i : Nat → Nat → Int32} {l : Nat → Nat → Int64} {I : Nat → Nat → Int32} {J : Nat → Nat → Int64} {nw df : Nat} {P : Nat → Nat} {a : Nat} {v : Int32} (ha : a < 8) : kis_ (mH h i l I J nw df P) 103 (nI a) v = some (mH h i l (va_up I 103 (upd (I 103) a v)) J nw df P) := by rw [sd_103, if_pos (nI_kin ha (by decide)), nI_clamp (by omega)]
theorem ld_104 {h : kH} {i : Nat → Nat → Int32} {l : Nat → Nat → Int64} {I : Nat → Nat → Int32} {J : Nat → Nat → Int64} {nw df : Nat} {P : Nat → Nat} {x : Int32} : kil (mH h i l I J nw df P) 104 x = if kin x 699 then some (I 104 x.toNatClampNeg) else none := m_il kd_104 (by decide)
theorem sd_104 {h : kH} {i : Nat → Nat → Int32} {l : Nat → Nat → Int64} {I : Nat → Nat → Int32} {J : Nat → Nat → Int64} {nw df : Nat} {P : Nat → Nat} {x v : Int32} : kis_ (mH h i l I J nw df P) 104 x v = if kin x 699 then some (mH h i l (va_up I 104 (upd (I 104) x.toNatClampNeg v)) J nw df P) else none := m_is_ kd_104 (by decide)
theorem ln_104 {h : kH} {i : Nat → Nat → Int32} {l : Nat → Nat → Int64} {I : Nat → Nat → Int32} {J : Nat → Nat → Int64} {nw df : Nat} {P : Nat → Nat} {a : Nat} (ha : a < 699) : kil (mH h i l I J nw df P) 104 (nI a) = some (I 104 a) := by rw [ld_104, if_pos (nI_kin ha (by decide)), nI_clamp (by omega)]
theorem sn_104 {h : kH} {i : Nat → Nat → Int32} {l : Nat → Nat → Int64} {I : Nat → Nat → Int32} {J : Nat → Nat → Int64} {nw df : Nat} {P : Nat → Nat} {a : Nat} {v : Int32} (ha : a < 699) : kis_ (mH h i l I J nw df P) 104 (nI a) v = some (mH h i l (va_up I 104 (upd (I 104) a v)) J nw df P) := by rw [sd_104, if_pos (nI_kin ha (by decide)), nI_clamp (by omega)]
theorem is_217 {h : kH} {i : Nat → Nat → Int32} {l : Nat → Nat → Int64} {I : Nat → Nat → Int32} {J : Nat → Nat → Int64} {nw df : Nat} {P : Nat → Nat} : kis (mH h i l I J nw df P) 13 217 = true := m_is kd_217 (by decide) (by decide)
theorem ld_218 {h : kH} {i : Nat → Nat → Int32} {l : Nat → Nat → Int64} {I : Nat → Nat → Int32} {J : Nat → Nat → Int64} {nw df : Nat} {P : Nat → Nat} {x : Int32} : kil (mH h i l I J nw df P) 218 x = if kin x 676 then some (I 218 x.toNatClampNeg) else none := m_il kd_218 (by decide)
theorem sd_218 {h : kH} {i : Nat → Nat → Int32} {l : Nat → Nat → Int64} {I : Nat → Nat → Int32} {J : Nat → Nat → Int64} {nw df : Nat} {P : Nat → Nat} {x v : Int32} : kis_ (mH h i l I J nw df P) 218 x v = if kin x 676 then some (mH h i l (va_up I 218 (upd (I 218) x.toNatClampNeg v)) J nw df P) else none := m_is_ kd_218 (by decide)
theorem ln_218 {h : kH} {i : Nat → Nat → Int32} {l : Nat → Nat → Int64} {I : Nat → Nat → Int32} {J : Nat → Nat → Int64} {nw df : Nat} {P : Nat → Nat} {a : Nat} (ha : a < 676) : kil (mH h i l I J nw df P) 218 (nI a) = some (I 218 a) := by rw [ld_218, if_pos (nI_kin ha (by decide)), nI_clamp (by omega)]
theorem sn_218 {h : kH} {i : Nat → Nat → Int32} {l : Nat → Nat → Int64} {I : Nat → Nat → Int32} {J : Nat → Nat → Int64} {nw df : Nat} {P : Nat → Nat} {a : Nat} {v : Int32} (ha : a < 676) : kis_ (mH h i l I J nw df P) 218 (nI a) v = some (mH h i l (va_up I 218 (upd (I 218) a v)) J nw df P) := by rw [sd_218, if_pos (nI_kin ha (by decide)), nI_clamp (by omega)]
theorem ld_219 {h : kH} {i : Nat → Nat → Int32} {l : Nat → Nat → Int64} {I : Nat → Nat → Int32} {J : Nat → Nat → Int64} {nw df : Nat} {P : Nat → Nat} {x : Int32} : kil (mH h i l I J nw df P) 219 x = if kin x 676 then some (I 219 x.toNatClampNeg) else none := m_il kd_219 (by decide)
theorem sd_219 {h : kH} {i : Nat → Nat → Int32} {l : Nat → Nat → Int64} {I : Nat → Nat → Int32} {J : Nat → Nat → Int64} {nw df : Nat} {P : Nat → Nat} {x v : Int32} : kis_ (mH h i l I J nw df P) 219 x v = if kin x 676 then some (mH h i l (va_up I 219 (upd (I 219) x.toNatClampNeg v)) J nw df P) else none := m_is_ kd_219 (by decide)
theorem ln_219 {h : kH} {i : Nat → Nat → Int32} {l : Nat → Nat → Int64} {I : Nat → Nat → Int32} {J : Nat → Nat → Int64} {nw df : Nat} {P : Nat → Nat} {a : Nat} (ha : a < 676) : kil (mH h i l I J nw df P) 219 (nI a) = some (I 219 a) := by rw [ld_219, if_pos (nI_kin ha (by decide)), nI_clamp (by omega)]
theorem sn_219 {h : kH} {i : Nat → Nat → Int32} {l : Nat → Nat → Int64} {I : Nat → Nat → Int32} {J : Nat → Nat → Int64} {nw df : Nat} {P : Nat → Nat} {a : Nat} {v : Int32} (ha : a < 676) : kis_ (mH h i l I J nw df P) 219 (nI a) v = some (mH h i l (va_up I 219 (upd (I 219) a v)) J nw df P) := by rw [sd_219, if_pos (nI_kin ha (by decide)), nI_clamp (by omega)]
theorem ld_220 {h : kH} {i : Nat → Nat → Int32} {l : Nat → Nat → Int64} {I : Nat → Nat → Int32} {J : Nat → Nat → Int64} {nw df : Nat} {P : Nat → Nat} {x : Int32} : kil (mH h i l I J nw df P) 220 x = if kin x 5408 then some (I 220 x.toNatClampNeg) else none := m_il kd_220 (by decide)
theorem sd_220 {h : kH} {i : Nat → Nat → Int32} {l : Nat → Nat → Int64} {I : Nat → Nat → Int32} {J : Nat → Nat → Int64} {nw df : Nat} {P : Nat → Nat} {x v : Int32} : kis_ (mH h i l I J nw df P) 220 x v = if kin x 5408 then some (mH h i l (va_up I 220 (upd (I 220) x.toNatClampNeg v)) J nw df P) else none := m_is_ kd_220 (by decide)
theorem ln_220 {h : kH} {i : Nat → Nat → Int32} {l : Nat → Nat → Int64} {I : Nat → Nat → Int32} {J : Nat → Nat → Int64} {nw df : Nat} {P : Nat → Nat} {a : Nat} (ha : a < 5408) : kil (mH h i l I J nw df P) 220 (nI a) = some (I 220 a) := by rw [ld_220, if_pos (nI_kin ha (by decide)), nI_clamp (by omega)]
theorem sn_220 {h : kH} {i : Nat → Nat → Int32} {l : Nat → Nat → Int64} {I : Nat → Nat → Int32} {J : Nat → Nat → Int64} {nw df : Nat} {P : Nat → Nat} {a : Nat} {v : Int32} (ha : a < 5408) : kis_ (mH h i l I J nw df P) 220 (nI a) v = some (mH h i l (va_up I 220 (upd (I 220) a v)) J nw df P) := by rw [sd_220, if_pos (nI_kin ha (by decide)), nI_clamp (by omega)]
theorem ld_221 {h : kH} {i : Nat → Nat → Int32} {l : Nat → Nat → Int64} {I : Nat → Nat → Int32} {J : Nat → Nat → Int64} {nw df : Nat} {P : Nat → Nat} {x : Int32} : kbl (mH h i l I J nw df P) 221 x = if kin x 240 then some (I 221 x.toNatClampNeg) else none := m_bl kd_221 (by decide)
theorem sd_221 {h : kH} {i : Nat → Nat → Int32} {l : Nat → Nat → Int64} {I : Nat → Nat → Int32} {J : Nat → Nat → Int64} {nw df : Nat} {P : Nat → Nat} {x v : Int32} : kbs (mH h i l I J nw df P) 221 x v = if kin x 240 then some (mH h i l (va_up I 221 (upd (I 221) x.toNatClampNeg (vp_nar .byte v))) J nw df P) else none := m_bs kd_221 (by decide)
theorem ln_221 {h : kH} {i : Nat → Nat → Int32} {l : Nat → Nat → Int64} {I : Nat → Nat → Int32} {J : Nat → Nat → Int64} {nw df : Nat} {P : Nat → Nat} {a : Nat} (ha : a < 240) : kbl (mH h i l I J nw df P) 221 (nI a) = some (I 221 a) := by rw [ld_221, if_pos (nI_kin ha (by decide)), nI_clamp (by omega)]
theorem sn_221 {h : kH} {i : Nat → Nat → Int32} {l : Nat → Nat → Int64} {I : Nat → Nat → Int32} {J : Nat → Nat → Int64} {nw df : Nat} {P : Nat → Nat} {a : Nat} {v : Int32} (ha : a < 240) : kbs (mH h i l I J nw df P) 221 (nI a) v = some (mH h i l (va_up I 221 (upd (I 221) a (vp_nar .byte v))) J nw df P) := by rw [sd_221, if_pos (nI_kin ha (by decide)), nI_clamp (by omega)]
theorem ld_222 {h : kH} {i : Nat → Nat → Int32} {l : Nat → Nat → Int64} {I : Nat → Nat → Int32} {J : Nat → Nat → Int64} {nw df : Nat} {P : Nat → Nat} {x : Int32} : kil (mH h i l I J nw df P) 222 x = if kin x 20 then some (I 222 x.toNatClampNeg) else none := m_il kd_222 (by decide)
theorem sd_222 {h : kH} {i : Nat → Nat → Int32} {l : Nat → Nat → Int64} {I : Nat → Nat → Int32} {J : Nat → Nat → Int64} {nw df : Nat} {P : Nat → Nat} {x v : Int32} : kis_ (mH h i l I J nw df P) 222 x v = if kin x 20 then some (mH h i l (va_up I 222 (upd (I 222) x.toNatClampNeg v)) J nw df P) else none := m_is_ kd_222 (by decide)
theorem ln_222 {h : kH} {i : Nat → Nat → Int32} {l : Nat → Nat → Int64} {I : Nat → Nat → Int32} {J : Nat → Nat → Int64} {nw df : Nat} {P : Nat → Nat} {a : Nat} (ha : a < 20) : kil (mH h i l I J nw df P) 222 (nI a) = some (I 222 a) := by rw [ld_222, if_pos (nI_kin ha (by decide)), nI_clamp (by omega)]
theorem sn_222 {h : kH} {i : Nat → Nat → Int32} {l : Nat → Nat → Int64} {I : Nat → Nat → Int32} {J : Nat → Nat → Int64} {nw df : Nat} {P : Nat → Nat} {a : Nat} {v : Int32} (ha : a < 20) : kis_ (mH h i l I J nw df P) 222 (nI a) v = some (mH h i l (va_up I 222 (upd (I 222) a v)) J nw df P) := by rw [sd_222, if_pos (nI_kin ha (by decide)), nI_clamp (by omega)]
theorem ld_223 {h : kH} {i : Nat → Nat → Int32} {l : Nat → Nat → Int64} {I : Nat → Nat → Int32} {J : Nat → Nat → Int64} {nw df : Nat} {P : Nat → Nat} {x : Int32} : kil (mH h i l I J nw df P) 223 x = if kin x 200 then some (I 223 x.toNatClampNeg) else none := m_il kd_223 (by decide)
theorem sd_223 {h : kH} {i : Nat → Nat → Int32} {l : Nat → Nat → Int64} {I : Nat → Nat → Int32} {J : Nat → Nat → Int64} {nw df : Nat} {P : Nat → Nat} {x v : Int32} : kis_ (mH h i l I J nw df P) 223 x v = if kin x 200 then some (mH h i l (va_up I 223 (upd (I 223) x.toNatClampNeg v)) J nw df P) else none := m_is_ kd_223 (by decide)
theorem ln_223 {h : kH} {i : Nat → Nat → Int32} {l : Nat → Nat → Int64} {I : Nat → Nat → Int32} {J : Nat → Nat → Int64} {nw df : Nat} {P : Nat → Nat} {a : Nat} (ha : a < 200) : kil (mH h i l I J nw df P) 223 (nI a) = some (I 223 a) := by rw [ld_223, if_pos (nI_kin ha (by decide)), nI_clamp (by omega)]
theorem sn_223 {h : kH} {i : Nat → Nat → Int32} {l : Nat → Nat → Int64} {I : Nat → Nat → Int32} {J : Nat → Nat → Int64} {nw df : Nat} {P : Nat → Nat} {a : Nat} {v : Int32} (ha : a < 200) : kis_ (mH h i l I J nw df P) 223 (nI a) v = some (mH h i l (va_up I 223 (upd (I 223) a v)) J nw df P) := by rw [sd_223, if_pos (nI_kin ha (by decide)), nI_clamp (by omega)]
theorem ld_224 {h : kH} {i : Nat → Nat → Int32} {l : Nat → Nat → Int64} {I : Nat → Nat → Int32} {J : Nat → Nat → Int64} {nw df : Nat} {P : Nat → Nat} {x : Int32} : kil (mH h i l I J nw df P) 224 x = if kin x 200 then some (I 224 x.toNatClampNeg) else none := m_il kd_224 (by decide)
theorem sd_224 {h : kH} {i : Nat → Nat → Int32} {l : Nat → Nat → Int64} {I : Nat → Nat → Int32} {J : Nat → Nat → Int64} {nw df : Nat} {P : Nat → Nat} {x v : Int32} : kis_ (mH h i l I J nw df P) 224 x v = if kin x 200 then some (mH h i l (va_up I 224 (upd (I 224) x.toNatClampNeg v)) J nw df P) else none := m_is_ kd_224 (by decide)
theorem ln_224 {h : kH} {i : Nat → Nat → Int32} {l : Nat → Nat → Int64} {I : Nat → Nat → Int32} {J : Nat → Nat → Int64} {nw df : Nat} {P : Nat → Nat} {a : Nat} (ha : a < 200) : kil (mH h i l I J nw df P) 224 (nI a) = some (I 224 a) := by rw [ld_224, if_pos (nI_kin ha (by decide)), nI_clamp (by omega)]
theorem sn_224 {h : kH} {i : Nat → Nat → Int32} {l : Nat → Nat → Int64} {I : Nat → Nat → Int32} {J : Nat → Nat → Int64} {nw df : Nat} {P : Nat → Nat} {a : Nat} {v : Int32} (ha : a < 200) : kis_ (mH h i l I J nw df P) 224 (nI a) v = some (mH h i l (va_up I 224 (upd (I 224) a v)) J nw df P) := by rw [sd_224, if_pos (nI_kin ha (by decide)), nI_clamp (by omega)]
theorem ld_225 {h : kH} {i : Nat → Nat → Int32} {l : Nat → Nat → Int64} {I : Nat → Nat → Int32} {J : Nat → Nat → Int64} {nw df : Nat} {P : Nat → Nat} {x : Int32} : kil (mH h i l I J nw df P) 225 x = if kin x 4 then some (I 225 x.toNatClampNeg) else none := m_il kd_225 (by decide)
theorem sd_225 {h : kH} {i : Nat → Nat → Int32} {l : Nat → Nat → Int64} {I : Nat → Nat → Int32} {J : Nat → Nat → Int64} {nw df : Nat} {P : Nat → Nat} {x v : Int32} : kis_ (mH h i l I J nw df P) 225 x v = if kin x 4 then some (mH h i l (va_up I 225 (upd (I 225) x.toNatClampNeg v)) J nw df P) else none := m_is_ kd_225 (by decide)
theorem ln_225 {h : kH} {i : Nat → Nat → Int32} {l : Nat → Nat → Int64} {I : Nat → Nat → Int32} {J : Nat → Nat → Int64} {nw df : Nat} {P : Nat → Nat} {a : Nat} (ha : a < 4) : kil (mH h i l I J nw df P) 225 (nI a) = some (I 225 a) := by rw [ld_225, if_pos (nI_kin ha (by decide)), nI_clamp (by omega)]
theorem sn_225 {h : kH} {i : Nat → Nat → Int32} {l : Nat → Nat → Int64} {I : Nat → Nat → Int32} {J : Nat → Nat → Int64} {nw df : Nat} {P : Nat → Nat} {a : Nat} {v : Int32} (ha : a < 4) : kis_ (mH h i l I J nw df P) 225 (nI a) v = some (mH h i l (va_up I 225 (upd (I 225) a v)) J nw df P) := by rw [sd_225, if_pos (nI_kin ha (by decide)), nI_clamp (by omega)]
theorem ld_226 {h : kH} {i : Nat → Nat → Int32} {l : Nat → Nat → Int64} {I : Nat → Nat → Int32} {J : Nat → Nat → Int64} {nw df : Nat} {P : Nat → Nat} {x : Int32} : kil (mH h i l I J nw df P) 226 x = if kin x 200 then some (I 226 x.toNatClampNeg) else none := m_il kd_226 (by decide)
theorem sd_226 {h : kH} {i : Nat → Nat → Int32} {l : Nat → Nat → Int64} {I : Nat → Nat → Int32} {J : Nat → Nat → Int64} {nw df : Nat} {P : Nat → Nat} {x v : Int32} : kis_ (mH h i l I J nw df P) 226 x v = if kin x 200 then some (mH h i l (va_up I 226 (upd (I 226) x.toNatClampNeg v)) J nw df P) else none := m_is_ kd_226 (by decide)
theorem ln_226 {h : kH} {i : Nat → Nat → Int32} {l : Nat → Nat → Int64} {I : Nat → Nat → Int32} {J : Nat → Nat → Int64} {nw df : Nat} {P : Nat → Nat} {a : Nat} (ha : a < 200) : kil (mH h i l I J nw df P) 226 (nI a) = some (I 226 a) := by rw [ld_226, if_pos (nI_kin ha (by decide)), nI_clamp (by omega)]
theorem sn_226 {h : kH} {i : Nat → Nat → Int32} {l : Nat → Nat → Int64} {I : Nat → Nat → Int32} {J : Nat → Nat → Int64} {nw df : Nat} {P : Nat → Nat} {a : Nat} {v : Int32} (ha : a < 200) : kis_ (mH h i l I J nw df P) 226 (nI a) v = some (mH h i l (va_up I 226 (upd (I 226) a v)) J nw df P) := by rw [sd_226, if_pos (nI_kin ha (by decide)), nI_clamp (by omega)]
theorem ld_227 {h : kH} {i : Nat → Nat → Int32} {l : Nat → Nat → Int64} {I : Nat → Nat → Int32} {J : Nat → Nat → Int64} {nw df : Nat} {P : Nat → Nat} {x : Int32} : kil (mH h i l I J nw df P) 227 x = if kin x 200 then some (I 227 x.toNatClampNeg) else none := m_il kd_227 (by decide)
theorem sd_227 {h : kH} {i : Nat → Nat → Int32} {l : Nat → Nat → Int64} {I : Nat → Nat → Int32} {J : Nat → Nat → Int64} {nw df : Nat} {P : Nat → Nat} {x v : Int32} : kis_ (mH h i l I J nw df P) 227 x v = if kin x 200 then some (mH h i l (va_up I 227 (upd (I 227) x.toNatClampNeg v)) J nw df P) else none := m_is_ kd_227 (by decide)
theorem ln_227 {h : kH} {i : Nat → Nat → Int32} {l : Nat → Nat → Int64} {I : Nat → Nat → Int32} {J : Nat → Nat → Int64} {nw df : Nat} {P : Nat → Nat} {a : Nat} (ha : a < 200) : kil (mH h i l I J nw df P) 227 (nI a) = some (I 227 a) := by rw [ld_227, if_pos (nI_kin ha (by decide)), nI_clamp (by omega)]
theorem sn_227 {h : kH} {i : Nat → Nat → Int32} {l : Nat → Nat → Int64} {I : Nat → Nat → Int32} {J : Nat → Nat → Int64} {nw df : Nat} {P : Nat → Nat} {a : Nat} {v : Int32} (ha : a < 200) : kis_ (mH h i l I J nw df P) 227 (nI a) v = some (mH h i l (va_up I 227 (upd (I 227) a v)) J nw df P) := by rw [sd_227, if_pos (nI_kin ha (by decide)), nI_clamp (by omega)]
theorem ld_228 {h : kH} {i : Nat → Nat → Int32} {l : Nat → Nat → Int64} {I : Nat → Nat → Int32} {J : Nat → Nat → Int64} {nw df : Nat} {P : Nat → Nat} {x : Int32} : kll (mH h i l I J nw df P) 228 x = if kin x 200 then some (J 228 x.toNatClampNeg) else none := m_ll kd_228 (by decide)
theorem sd_228 {h : kH} {i : Nat → Nat → Int32} {l : Nat → Nat → Int64} {I : Nat → Nat → Int32} {J : Nat → Nat → Int64} {nw df : Nat} {P : Nat → Nat} {x : Int32} {v : Int64} : kls (mH h i l I J nw df P) 228 x v = if kin x 200 then some (mH h i l I (va_up J 228 (vp_updL (J 228) x.toNatClampNeg v)) nw df P) else none := m_ls kd_228 (by decide)
theorem ln_228 {h : kH} {i : Nat → Nat → Int32} {l : Nat → Nat → Int64} {I : Nat → Nat → Int32} {J : Nat → Nat → Int64} {nw df : Nat} {P : Nat → Nat} {a : Nat} (ha : a < 200) : kll (mH h i l I J nw df P) 228 (nI a) = some (J 228 a) := by rw [ld_228, if_pos (nI_kin ha (by decide)), nI_clamp (by omega)]
theorem sn_228 {h : kH} {i : Nat → Nat → Int32} {l : Nat → Nat → Int64} {I : Nat → Nat → Int32} {J : Nat → Nat → Int64} {nw df : Nat} {P : Nat → Nat} {a : Nat} {v : Int64} (ha : a < 200) : kls (mH h i l I J nw df P) 228 (nI a) v = some (mH h i l I (va_up J 228 (vp_updL (J 228) a v)) nw df P) := by rw [sd_228, if_pos (nI_kin ha (by decide)), nI_clamp (by omega)]
theorem ld_229 {h : kH} {i : Nat → Nat → Int32} {l : Nat → Nat → Int64} {I : Nat → Nat → Int32} {J : Nat → Nat → Int64} {nw df : Nat} {P : Nat → Nat} {x : Int32} : kil (mH h i l I J nw df P) 229 x = if kin x 200 then some (I 229 x.toNatClampNeg) else none := m_il kd_229 (by decide)
theorem sd_229 {h : kH} {i : Nat → Nat → Int32} {l : Nat → Nat → Int64} {I : Nat → Nat → Int32} {J : Nat → Nat → Int64} {nw df : Nat} {P : Nat → Nat} {x v : Int32} : kis_ (mH h i l I J nw df P) 229 x v = if kin x 200 then some (mH h i l (va_up I 229 (upd (I 229) x.toNatClampNeg v)) J nw df P) else none := m_is_ kd_229 (by decide)
theorem ln_229 {h : kH} {i : Nat → Nat → Int32} {l : Nat → Nat → Int64} {I : Nat → Nat → Int32} {J : Nat → Nat → Int64} {nw df : Nat} {P : Nat → Nat} {a : Nat} (ha : a < 200) : kil (mH h i l I J nw df P) 229 (nI a) = some (I 229 a) := by rw [ld_229, if_pos (nI_kin ha (by decide)), nI_clamp (by omega)]
theorem sn_229 {h : kH} {i : Nat → Nat → Int32} {l : Nat → Nat → Int64} {I : Nat → Nat → Int32} {J : Nat → Nat → Int64} {nw df : Nat} {P : Nat → Nat} {a : Nat} {v : Int32} (ha : a < 200) : kis_ (mH h i l I J nw df P) 229 (nI a) v = some (mH h i l (va_up I 229 (upd (I 229) a v)) J nw df P) := by rw [sd_229, if_pos (nI_kin ha (by decide)), nI_clamp (by omega)]
theorem ld_230 {h : kH} {i : Nat → Nat → Int32} {l : Nat → Nat → Int64} {I : Nat → Nat → Int32} {J : Nat → Nat → Int64} {nw df : Nat} {P : Nat → Nat} {x : Int32} : kll (mH h i l I J nw df P) 230 x = if kin x 200 then some (J 230 x.toNatClampNeg) else none := m_ll kd_230 (by decide)
theorem sd_230 {h : kH} {i : Nat → Nat → Int32} {l : Nat → Nat → Int64} {I : Nat → Nat → Int32} {J : Nat → Nat → Int64} {nw df : Nat} {P : Nat → Nat} {x : Int32} {v : Int64} : kls (mH h i l I J nw df P) 230 x v = if kin x 200 then some (mH h i l I (va_up J 230 (vp_updL (J 230) x.toNatClampNeg v)) nw df P) else none := m_ls kd_230 (by decide)
theorem ln_230 {h : kH} {i : Nat → Nat → Int32} {l : Nat → Nat → Int64} {I : Nat → Nat → Int32} {J : Nat → Nat → Int64} {nw df : Nat} {P : Nat → Nat} {a : Nat} (ha : a < 200) : kll (mH h i l I J nw df P) 230 (nI a) = some (J 230 a) := by rw [ld_230, if_pos (nI_kin ha (by decide)), nI_clamp (by omega)]
theorem sn_230 {h : kH} {i : Nat → Nat → Int32} {l : Nat → Nat → Int64} {I : Nat → Nat → Int32} {J : Nat → Nat → Int64} {nw df : Nat} {P : Nat → Nat} {a : Nat} {v : Int64} (ha : a < 200) : kls (mH h i l I J nw df P) 230 (nI a) v = some (mH h i l I (va_up J 230 (vp_updL (J 230) a v)) nw df P) := by rw [sd_230, if_pos (nI_kin ha (by decide)), nI_clamp (by omega)]
theorem ld_231 {h : kH} {i : Nat → Nat → Int32} {l : Nat → Nat → Int64} {I : Nat → Nat → Int32} {J : Nat → Nat → Int64} {nw df : Nat} {P : Nat → Nat} {x : Int32} : kbl (mH h i l I J nw df P) 231 x = if kin x 200 then some (I 231 x.toNatClampNeg) else none := m_zl kd_231 (by decide)
theorem sd_231 {h : kH} {i : Nat → Nat → Int32} {l : Nat → Nat → Int64} {I : Nat → Nat → Int32} {J : Nat → Nat → Int64} {nw df : Nat} {P : Nat → Nat} {x v : Int32} : kbs (mH h i l I J nw df P) 231 x v = if kin x 200 then some (mH h i l (va_up I 231 (upd (I 231) x.toNatClampNeg (vp_nar .boolean v))) J nw df P) else none := m_zs kd_231 (by decide)
theorem ln_231 {h : kH} {i : Nat → Nat → Int32} {l : Nat → Nat → Int64} {I : Nat → Nat → Int32} {J : Nat → Nat → Int64} {nw df : Nat} {P : Nat → Nat} {a : Nat} (ha : a < 200) : kbl (mH h i l I J nw df P) 231 (nI a) = some (I 231 a) := by rw [ld_231, if_pos (nI_kin ha (by decide)), nI_clamp (by omega)]
theorem sn_231 {h : kH} {i : Nat → Nat → Int32} {l : Nat → Nat → Int64} {I : Nat → Nat → Int32} {J : Nat → Nat → Int64} {nw df : Nat} {P : Nat → Nat} {a : Nat} {v : Int32} (ha : a < 200) : kbs (mH h i l I J nw df P) 231 (nI a) v = some (mH h i l (va_up I 231 (upd (I 231) a (vp_nar .boolean v))) J nw df P) := by rw [sd_231, if_pos (nI_kin ha (by decide)), nI_clamp (by omega)]
theorem ld_232 {h : kH} {i : Nat → Nat → Int32} {l : Nat → Nat → Int64} {I : Nat → Nat → Int32} {J : Nat → Nat → Int64} {nw df : Nat} {P : Nat → Nat} {x : Int32} : kll (mH h i l I J nw df P) 232 x = if kin x 1600 then some (J 232 x.toNatClampNeg) else none := m_ll kd_232 (by decide)
theorem sd_232 {h : kH} {i : Nat → Nat → Int32} {l : Nat → Nat → Int64} {I : Nat → Nat → Int32} {J : Nat → Nat → Int64} {nw df : Nat} {P : Nat → Nat} {x : Int32} {v : Int64} : kls (mH h i l I J nw df P) 232 x v = if kin x 1600 then some (mH h i l I (va_up J 232 (vp_updL (J 232) x.toNatClampNeg v)) nw df P) else none := m_ls kd_232 (by decide)
theorem ln_232 {h : kH} {i : Nat → Nat → Int32} {l : Nat → Nat → Int64} {I : Nat → Nat → Int32} {J : Nat → Nat → Int64} {nw df : Nat} {P : Nat → Nat} {a : Nat} (ha : a < 1600) : kll (mH h i l I J nw df P) 232 (nI a) = some (J 232 a) := by rw [ld_232, if_pos (nI_kin ha (by decide)), nI_clamp (by omega)]
theorem sn_232 {h : kH} {i : Nat → Nat → Int32} {l : Nat → Nat → Int64} {I : Nat → Nat → Int32} {J : Nat → Nat → Int64} {nw df : Nat} {P : Nat → Nat} {a : Nat} {v : Int64} (ha : a < 1600) : kls (mH h i l I J nw df P) 232 (nI a) v = some (mH h i l I (va_up J 232 (vp_updL (J 232) a v)) nw df P) := by rw [sd_232, if_pos (nI_kin ha (by decide)), nI_clamp (by omega)]
theorem ld_233 {h : kH} {i : Nat → Nat → Int32} {l : Nat → Nat → Int64} {I : Nat → Nat → Int32} {J : Nat → Nat → Int64} {nw df : Nat} {P : Nat → Nat} {x : Int32} : kbl (mH h i l I J nw df P) 233 x = if kin x 400 then some (I 233 x.toNatClampNeg) else none := m_zl kd_233 (by decide)
theorem sd_233 {h : kH} {i : Nat → Nat → Int32} {l : Nat → Nat → Int64} {I : Nat → Nat → Int32} {J : Nat → Nat → Int64} {nw df : Nat} {P : Nat → Nat} {x v : Int32} : kbs (mH h i l I J nw df P) 233 x v = if kin x 400 then some (mH h i l (va_up I 233 (upd (I 233) x.toNatClampNeg (vp_nar .boolean v))) J nw df P) else none := m_zs kd_233 (by decide)
theorem ln_233 {h : kH} {i : Nat → Nat → Int32} {l : Nat → Nat → Int64} {I : Nat → Nat → Int32} {J : Nat → Nat → Int64} {nw df : Nat} {P : Nat → Nat} {a : Nat} (ha : a < 400) : kbl (mH h i l I J nw df P) 233 (nI a) = some (I 233 a) := by rw [ld_233, if_pos (nI_kin ha (by decide)), nI_clamp (by omega)]
theorem sn_233 {h : kH} {i : Nat → Nat → Int32} {l : Nat → Nat → Int64} {I : Nat → Nat → Int32} {J : Nat → Nat → Int64} {nw df : Nat} {P : Nat → Nat} {a : Nat} {v : Int32} (ha : a < 400) : kbs (mH h i l I J nw df P) 233 (nI a) v = some (mH h i l (va_up I 233 (upd (I 233) a (vp_nar .boolean v))) J nw df P) := by rw [sd_233, if_pos (nI_kin ha (by decide)), nI_clamp (by omega)]
theorem ld_234 {h : kH} {i : Nat → Nat → Int32} {l : Nat → Nat → Int64} {I : Nat → Nat → Int32} {J : Nat → Nat → Int64} {nw df : Nat} {P : Nat → Nat} {x : Int32} : kbl (mH h i l I J nw df P) 234 x = if kin x 200 then some (I 234 x.toNatClampNeg) else none := m_zl kd_234 (by decide)
theorem sd_234 {h : kH} {i : Nat → Nat → Int32} {l : Nat → Nat → Int64} {I : Nat → Nat → Int32} {J : Nat → Nat → Int64} {nw df : Nat} {P : Nat → Nat} {x v : Int32} : kbs (mH h i l I J nw df P) 234 x v = if kin x 200 then some (mH h i l (va_up I 234 (upd (I 234) x.toNatClampNeg (vp_nar .boolean v))) J nw df P) else none := m_zs kd_234 (by decide)
theorem ln_234 {h : kH} {i : Nat → Nat → Int32} {l : Nat → Nat → Int64} {I : Nat → Nat → Int32} {J : Nat → Nat → Int64} {nw df : Nat} {P : Nat → Nat} {a : Nat} (ha : a < 200) : kbl (mH h i l I J nw df P) 234 (nI a) = some (I 234 a) := by rw [ld_234, if_pos (nI_kin ha (by decide)), nI_clamp (by omega)]
theorem sn_234 {h : kH} {i : Nat → Nat → Int32} {l : Nat → Nat → Int64} {I : Nat → Nat → Int32} {J : Nat → Nat → Int64} {nw df : Nat} {P : Nat → Nat} {a : Nat} {v : Int32} (ha : a < 200) : kbs (mH h i l I J nw df P) 234 (nI a) v = some (mH h i l (va_up I 234 (upd (I 234) a (vp_nar .boolean v))) J nw df P) := by rw [sd_234, if_pos (nI_kin ha (by decide)), nI_clamp (by omega)]
theorem ld_235 {h : kH} {i : Nat → Nat → Int32} {l : Nat → Nat → Int64} {I : Nat → Nat → Int32} {J : Nat → Nat → Int64} {nw df : Nat} {P : Nat → Nat} {x : Int32} : kil (mH h i l I J nw df P) 235 x = if kin x 8 then some (I 235 x.toNatClampNeg) else none := m_il kd_235 (by decide)
theorem sd_235 {h : kH} {i : Nat → Nat → Int32} {l : Nat → Nat → Int64} {I : Nat → Nat → Int32} {J : Nat → Nat → Int64} {nw df : Nat} {P : Nat → Nat} {x v : Int32} : kis_ (mH h i l I J nw df P) 235 x v = if kin x 8 then some (mH h i l (va_up I 235 (upd (I 235) x.toNatClampNeg v)) J nw df P) else none := m_is_ kd_235 (by decide)
theorem ln_235 {h : kH} {i : Nat → Nat → Int32} {l : Nat → Nat → Int64} {I : Nat → Nat → Int32} {J : Nat → Nat → Int64} {nw df : Nat} {P : Nat → Nat} {a : Nat} (ha : a < 8) : kil (mH h i l I J nw df P) 235 (nI a) = some (I 235 a) := by rw [ld_235, if_pos (nI_kin ha (by decide)), nI_clamp (by omega)]
theorem sn_235 {h : kH} {i : Nat → Nat → Int32} {l : Nat → Nat → Int64} {I : Nat → Nat → Int32} {J : Nat → Nat → Int64} {nw df : Nat} {P : Nat → Nat} {a : Nat} {v : Int32} (ha : a < 8) : kis_ (mH h i l I J nw df P) 235 (nI a) v = some (mH h i l (va_up I 235 (upd (I 235) a v)) J nw df P) := by rw [sd_235, if_pos (nI_kin ha (by decide)), nI_clamp (by omega)]
theorem ld_236 {h : kH} {i : Nat → Nat → Int32} {l : Nat → Nat → Int64} {I : Nat → Nat → Int32} {J : Nat → Nat → Int64} {nw df : Nat} {P : Nat → Nat} {x : Int32} : kil (mH h i l I J nw df P) 236 x = if kin x 5 then some (I 236 x.toNatClampNeg) else none := m_il kd_236 (by decide)
theorem sd_236 {h : kH} {i : Nat → Nat → Int32} {l : Nat → Nat → Int64} {I : Nat → Nat → Int32} {J : Nat → Nat → Int64} {nw df : Nat} {P : Nat → Nat} {x v : Int32} : kis_ (mH h i l I J nw df P) 236 x v = if kin x 5 then some (mH h i l (va_up I 236 (upd (I 236) x.toNatClampNeg v)) J nw df P) else none := m_is_ kd_236 (by decide)
theorem ln_236 {h : kH} {i : Nat → Nat → Int32} {l : Nat → Nat → Int64} {I : Nat → Nat → Int32} {J : Nat → Nat → Int64} {nw df : Nat} {P : Nat → Nat} {a : Nat} (ha : a < 5) : kil (mH h i l I J nw df P) 236 (nI a) = some (I 236 a) := by rw [ld_236, if_pos (nI_kin ha (by decide)), nI_clamp (by omega)]
theorem sn_236 {h : kH} {i : Nat → Nat → Int32} {l : Nat → Nat → Int64} {I : Nat → Nat → Int32} {J : Nat → Nat → Int64} {nw df : Nat} {P : Nat → Nat} {a : Nat} {v : Int32} (ha : a < 5) : kis_ (mH h i l I J nw df P) 236 (nI a) v = some (mH h i l (va_up I 236 (upd (I 236) a v)) J nw df P) := by rw [sd_236, if_pos (nI_kin ha (by decide)), nI_clamp (by omega)]
theorem ld_237 {h : kH} {i : Nat → Nat → Int32} {l : Nat → Nat → Int64} {I : Nat → Nat → Int32} {J : Nat → Nat → Int64} {nw df : Nat} {P : Nat → Nat} {x : Int32} : kil (mH h i l I J nw df P) 237 x = if kin x 5 then some (I 237 x.toNatClampNeg) else none := m_il kd_237 (by decide)
theorem sd_237 {h : kH} {i : Nat → Nat → Int32} {l : Nat → Nat → Int64} {I : Nat → Nat → Int32} {J : Nat → Nat → Int64} {nw df : Nat} {P : Nat → Nat} {x v : Int32} : kis_ (mH h i l I J nw df P) 237 x v = if kin x 5 then some (mH h i l (va_up I 237 (upd (I 237) x.toNatClampNeg v)) J nw df P) else none := m_is_ kd_237 (by decide)
theorem ln_237 {h : kH} {i : Nat → Nat → Int32} {l : Nat → Nat → Int64} {I : Nat → Nat → Int32} {J : Nat → Nat → Int64} {nw df : Nat} {P : Nat → Nat} {a : Nat} (ha : a < 5) : kil (mH h i l I J nw df P) 237 (nI a) = some (I 237 a) := by rw [ld_237, if_pos (nI_kin ha (by decide)), nI_clamp (by omega)]
theorem sn_237 {h : kH} {i : Nat → Nat → Int32} {l : Nat → Nat → Int64} {I : Nat → Nat → Int32} {J : Nat → Nat → Int64} {nw df : Nat} {P : Nat → Nat} {a : Nat} {v : Int32} (ha : a < 5) : kis_ (mH h i l I J nw df P) 237 (nI a) v = some (mH h i l (va_up I 237 (upd (I 237) a v)) J nw df P) := by rw [sd_237, if_pos (nI_kin ha (by decide)), nI_clamp (by omega)]
theorem ld_238 {h : kH} {i : Nat → Nat → Int32} {l : Nat → Nat → Int64} {I : Nat → Nat → Int32} {J : Nat → Nat → Int64} {nw df : Nat} {P : Nat → Nat} {x : Int32} : kil (mH h i l I J nw df P) 238 x = if kin x 30 then some (I 238 x.toNatClampNeg) else none := m_il kd_238 (by decide)
theorem sd_238 {h : kH} {i : Nat → Nat → Int32} {l : Nat → Nat → Int64} {I : Nat → Nat → Int32} {J : Nat → Nat → Int64} {nw df : Nat} {P : Nat → Nat} {x v : Int32} : kis_ (mH h i l I J nw df P) 238 x v = if kin x 30 then some (mH h i l (va_up I 238 (upd (I 238) x.toNatClampNeg v)) J nw df P) else none := m_is_ kd_238 (by decide)
theorem ln_238 {h : kH} {i : Nat → Nat → Int32} {l : Nat → Nat → Int64} {I : Nat → Nat → Int32} {J : Nat → Nat → Int64} {nw df : Nat} {P : Nat → Nat} {a : Nat} (ha : a < 30) : kil (mH h i l I J nw df P) 238 (nI a) = some (I 238 a) := by rw [ld_238, if_pos (nI_kin ha (by decide)), nI_clamp (by omega)]
theorem sn_238 {h : kH} {i : Nat → Nat → Int32} {l : Nat → Nat → Int64} {I : Nat → Nat → Int32} {J : Nat → Nat → Int64} {nw df : Nat} {P : Nat → Nat} {a : Nat} {v : Int32} (ha : a < 30) : kis_ (mH h i l I J nw df P) 238 (nI a) v = some (mH h i l (va_up I 238 (upd (I 238) a v)) J nw df P) := by rw [sd_238, if_pos (nI_kin ha (by decide)), nI_clamp (by omega)]
theorem ld_239 {h : kH} {i : Nat → Nat → Int32} {l : Nat → Nat → Int64} {I : Nat → Nat → Int32} {J : Nat → Nat → Int64} {nw df : Nat} {P : Nat → Nat} {x : Int32} : kbl (mH h i l I J nw df P) 239 x = if kin x 5 then some (I 239 x.toNatClampNeg) else none := m_zl kd_239 (by decide)
theorem sd_239 {h : kH} {i : Nat → Nat → Int32} {l : Nat → Nat → Int64} {I : Nat → Nat → Int32} {J : Nat → Nat → Int64} {nw df : Nat} {P : Nat → Nat} {x v : Int32} : kbs (mH h i l I J nw df P) 239 x v = if kin x 5 then some (mH h i l (va_up I 239 (upd (I 239) x.toNatClampNeg (vp_nar .boolean v))) J nw df P) else none := m_zs kd_239 (by decide)
theorem ln_239 {h : kH} {i : Nat → Nat → Int32} {l : Nat → Nat → Int64} {I : Nat → Nat → Int32} {J : Nat → Nat → Int64} {nw df : Nat} {P : Nat → Nat} {a : Nat} (ha : a < 5) : kbl (mH h i l I J nw df P) 239 (nI a) = some (I 239 a) := by rw [ld_239, if_pos (nI_kin ha (by decide)), nI_clamp (by omega)]
theorem sn_239 {h : kH} {i : Nat → Nat → Int32} {l : Nat → Nat → Int64} {I : Nat → Nat → Int32} {J : Nat → Nat → Int64} {nw df : Nat} {P : Nat → Nat} {a : Nat} {v : Int32} (ha : a < 5) : kbs (mH h i l I J nw df P) 239 (nI a) v = some (mH h i l (va_up I 239 (upd (I 239) a (vp_nar .boolean v))) J nw df P) := by rw [sd_239, if_pos (nI_kin ha (by decide)), nI_clamp (by omega)]
theorem ld_240 {h : kH} {i : Nat → Nat → Int32} {l : Nat → Nat → Int64} {I : Nat → Nat → Int32} {J : Nat → Nat → Int64} {nw df : Nat} {P : Nat → Nat} {x : Int32} : kbl (mH h i l I J nw df P) 240 x = if kin x 80 then some (I 240 x.toNatClampNeg) else none := m_bl kd_240 (by decide)
theorem sd_240 {h : kH} {i : Nat → Nat → Int32} {l : Nat → Nat → Int64} {I : Nat → Nat → Int32} {J : Nat → Nat → Int64} {nw df : Nat} {P : Nat → Nat} {x v : Int32} : kbs (mH h i l I J nw df P) 240 x v = if kin x 80 then some (mH h i l (va_up I 240 (upd (I 240) x.toNatClampNeg (vp_nar .byte v))) J nw df P) else none := m_bs kd_240 (by decide)
theorem ln_240 {h : kH} {i : Nat → Nat → Int32} {l : Nat → Nat → Int64} {I : Nat → Nat → Int32} {J : Nat → Nat → Int64} {nw df : Nat} {P : Nat → Nat} {a : Nat} (ha : a < 80) : kbl (mH h i l I J nw df P) 240 (nI a) = some (I 240 a) := by rw [ld_240, if_pos (nI_kin ha (by decide)), nI_clamp (by omega)]
theorem sn_240 {h : kH} {i : Nat → Nat → Int32} {l : Nat → Nat → Int64} {I : Nat → Nat → Int32} {J : Nat → Nat → Int64} {nw df : Nat} {P : Nat → Nat} {a : Nat} {v : Int32} (ha : a < 80) : kbs (mH h i l I J nw df P) 240 (nI a) v = some (mH h i l (va_up I 240 (upd (I 240) a (vp_nar .byte v))) J nw df P) := by rw [sd_240, if_pos (nI_kin ha (by decide)), nI_clamp (by omega)]
theorem ld_241 {h : kH} {i : Nat → Nat → Int32} {l : Nat → Nat → Int64} {I : Nat → Nat → Int32} {J : Nat → Nat → Int64} {nw df : Nat} {P : Nat → Nat} {x : Int32} : kbl (mH h i l I J nw df P) 241 x = if kin x 25 then some (I 241 x.toNatClampNeg) else none := m_bl kd_241 (by decide)
theorem sd_241 {h : kH} {i : Nat → Nat → Int32} {l : Nat → Nat → Int64} {I : Nat → Nat → Int32} {J : Nat → Nat → Int64} {nw df : Nat} {P : Nat → Nat} {x v : Int32} : kbs (mH h i l I J nw df P) 241 x v = if kin x 25 then some (mH h i l (va_up I 241 (upd (I 241) x.toNatClampNeg (vp_nar .byte v))) J nw df P) else none := m_bs kd_241 (by decide)
theorem ln_241 {h : kH} {i : Nat → Nat → Int32} {l : Nat → Nat → Int64} {I : Nat → Nat → Int32} {J : Nat → Nat → Int64} {nw df : Nat} {P : Nat → Nat} {a : Nat} (ha : a < 25) : kbl (mH h i l I J nw df P) 241 (nI a) = some (I 241 a) := by rw [ld_241, if_pos (nI_kin ha (by decide)), nI_clamp (by omega)]
theorem sn_241 {h : kH} {i : Nat → Nat → Int32} {l : Nat → Nat → Int64} {I : Nat → Nat → Int32} {J : Nat → Nat → Int64} {nw df : Nat} {P : Nat → Nat} {a : Nat} {v : Int32} (ha : a < 25) : kbs (mH h i l I J nw df P) 241 (nI a) v = some (mH h i l (va_up I 241 (upd (I 241) a (vp_nar .byte v))) J nw df P) := by rw [sd_241, if_pos (nI_kin ha (by decide)), nI_clamp (by omega)]
theorem kd_stA : ∀ s, s < 10 → ∀ j, j < 14 → kd (stB s + j) = kdS.getD j (99, 0) := by decide +kernel
theorem kd_st0 {s : Nat} (hs : s < 10) : kd (stB s) = (8, 0) := kd_stA s hs 0 (by decide)
theorem kd_st1 {s : Nat} (hs : s < 10) : kd (stB s + 1) = (20, 5) := kd_stA s hs 1 (by decide)
theorem kd_st2 {s : Nat} (hs : s < 10) : kd (stB s + 2) = (7, 0) := kd_stA s hs 2 (by decide)
theorem kd_st3 {s : Nat} (hs : s < 10) : kd (stB s + 3) = (20, 10) := kd_stA s hs 3 (by decide)
theorem kd_st4 {s : Nat} (hs : s < 10) : kd (stB s + 4) = (20, 10) := kd_stA s hs 4 (by decide)
theorem kd_st5 {s : Nat} (hs : s < 10) : kd (stB s + 5) = (3, 0) := kd_stA s hs 5 (by decide)
theorem kd_st6 {s : Nat} (hs : s < 10) : kd (stB s + 6) = (20, 200) := kd_stA s hs 6 (by decide)
theorem kd_st7 {s : Nat} (hs : s < 10) : kd (stB s + 7) = (20, 200) := kd_stA s hs 7 (by decide)
theorem kd_st8 {s : Nat} (hs : s < 10) : kd (stB s + 8) = (9, 0) := kd_stA s hs 8 (by decide)
theorem kd_st9 {s : Nat} (hs : s < 10) : kd (stB s + 9) = (20, 10) := kd_stA s hs 9 (by decide)
theorem kd_st10 {s : Nat} (hs : s < 10) : kd (stB s + 10) = (20, 10) := kd_stA s hs 10 (by decide)
theorem kd_st11 {s : Nat} (hs : s < 10) : kd (stB s + 11) = (5, 0) := kd_stA s hs 11 (by decide)
theorem kd_st12 {s : Nat} (hs : s < 10) : kd (stB s + 12) = (20, 20) := kd_stA s hs 12 (by decide)
theorem kd_st13 {s : Nat} (hs : s < 10) : kd (stB s + 13) = (20, 200) := kd_stA s hs 13 (by decide)
theorem k_lit (n : Nat) : (OfNat.ofNat n : Int32) = nI n := rfl
theorem k_lit0 : (0 : Int32) = nI 0 := rfl
theorem k_lit1 : (1 : Int32) = nI 1 := rfl
theorem k_litL (n : Nat) : (OfNat.ofNat n : Int64) = lN n := rfl
theorem kup_I {I : Nat → Nat → Int32} {q : Nat} {f g : Nat → Int32} : va_up (va_up I q f) q g = va_up I q g := by funext a; unfold va_up; split <;> rfl
theorem kup_J {I : Nat → Nat → Int64} {q : Nat} {f g : Nat → Int64} : va_up (va_up I q f) q g = va_up I q g := by funext a; unfold va_up; split <;> rfl
theorem kup_Is {I : Nat → Nat → Int32} {q : Nat} {f : Nat → Int32} : va_up I q f q = f := if_pos rfl
theorem kup_Js {I : Nat → Nat → Int64} {q : Nat} {f : Nat → Int64} : va_up I q f q = f := if_pos rfl
theorem kup_In {I : Nat → Nat → Int32} {q p : Nat} {f : Nat → Int32} (h : p ≠ q) : va_up I q f p = I p := if_neg h
theorem kup_Jn {I : Nat → Nat → Int64} {q p : Nat} {f : Nat → Int64} (h : p ≠ q) : va_up I q f p = I p := if_neg h
theorem kup_Ii {I : Nat → Nat → Int32} {q : Nat} {f : Nat → Int32} (h : ∀ j, f j = I q j) : va_up I q f = I := by
  funext a
  unfold va_up
  split
  · rename_i e
    subst e
    exact funext h
  · rfl
theorem kup_Ji {I : Nat → Nat → Int64} {q : Nat} {f : Nat → Int64} (h : ∀ j, f j = I q j) : va_up I q f = I := by
  funext a
  unfold va_up
  split
  · rename_i e
    subst e
    exact funext h
  · rfl
theorem stB_ge (s : Nat) : 37 ≤ stB s := by
  unfold stB
  split
  · omega
  · split <;> omega
