/-! OWN: combs: the mathematics. A angles, n knocks, u over w the ratio, sl dr slip and drift, k the knock from which it goes. A hit: knock, mark, how far off; the newest first -/
abbrev cT : Type := Nat × Nat × Nat
def cX (A : Nat → Nat) (u k j : Nat) : Nat := (A j - A k) * u
def cM (w x : Nat) : Nat := if 1000000 * w < 2 * (x % (1000000 * w)) then x / (1000000 * w) + 1 else x / (1000000 * w)
def cO (w x : Nat) : Nat := if 1000000 * w < 2 * (x % (1000000 * w)) then 1000000 * w - x % (1000000 * w) else x % (1000000 * w)
def cK (A : Nat → Nat) (n u w k : Nat) : Nat := cX A u k (n - 1) / (1000000 * w) + 1
abbrev cN (w sl dr K m o : Nat) : Prop := m < K ∧ o ≤ 1000 * w * min 490 (sl + m * dr)
def cS (hs : List cT) (j m o : Nat) : List cT := match hs with
  | [] => [(j, m, o)]
  | e :: t => if e.2.1 = m then (if o < e.2.2 then (j, m, o) :: t else e :: t) else (j, m, o) :: e :: t
def cT1 (A : Nat → Nat) (u w sl dr k K : Nat) (hs : List cT) (j : Nat) : List cT := if cN w sl dr K (cM w (cX A u k j)) (cO w (cX A u k j)) then cS hs j (cM w (cX A u k j)) (cO w (cX A u k j)) else hs
def cG (A : Nat → Nat) (u w sl dr k K : Nat) : Nat → Nat → List cT → List cT
  | 0, _, hs => hs
  | c + 1, j, hs => cG A u w sl dr k K c (j + 1) (cT1 A u w sl dr k K hs j)
def cH (A : Nat → Nat) (n u w sl dr k : Nat) : List cT := cG A u w sl dr k (cK A n u w k) (n - k) k []
/-- what holds of a row of hits: knocks rise, none ahead of k, none at j or behind, marks below K, offs at most half a period -/
def cI (w k K j : Nat) (hs : List cT) : Prop := (hs.Pairwise fun a b => b.1 < a.1) ∧ ∀ e ∈ hs, k ≤ e.1 ∧ e.1 < j ∧ e.2.1 < K ∧ e.2.2 ≤ 1000000 * w
theorem cS_mem {hs : List cT} {j m o : Nat} {e : cT} (h : e ∈ cS hs j m o) : e = (j, m, o) ∨ e ∈ hs := by
  unfold cS at h
  split at h
  · exact Or.inl (List.mem_singleton.mp h)
  · split at h
    · split at h
      · rcases List.mem_cons.mp h with z | z
        · exact Or.inl z
        · exact Or.inr (List.mem_cons_of_mem _ z)
      · exact Or.inr h
    · rcases List.mem_cons.mp h with z | z
      · exact Or.inl z
      · exact Or.inr z
theorem cS_pw {hs : List cT} {j m o : Nat} (hp : hs.Pairwise fun a b => b.1 < a.1) (hj : ∀ e ∈ hs, e.1 < j) : (cS hs j m o).Pairwise fun a b => b.1 < a.1 := by
  unfold cS
  split
  · exact List.pairwise_singleton _ _
  · rename_i e t
    split
    · split
      · exact List.pairwise_cons.mpr ⟨fun x hx => hj x (List.mem_cons_of_mem _ hx), (List.pairwise_cons.mp hp).2⟩
      · exact hp
    · exact List.pairwise_cons.mpr ⟨fun x hx => hj x hx, hp⟩
theorem cO_le (w x : Nat) : cO w x ≤ 1000000 * w := by
  unfold cO
  split
  · omega
  · rcases Nat.eq_zero_or_pos w with h | h
    · subst h; simp at *; omega
    · exact Nat.le_of_lt (Nat.mod_lt _ (by omega))
theorem cI_step {A : Nat → Nat} {u w sl dr k K j : Nat} {hs : List cT} (h : cI w k K j hs) (hk : k ≤ j) : cI w k K (j + 1) (cT1 A u w sl dr k K hs j) := by
  unfold cT1
  split
  · rename_i hc
    refine ⟨cS_pw h.1 (fun e he => (h.2 e he).2.1), fun e he => ?_⟩
    rcases cS_mem he with z | z
    · subst z
      exact ⟨hk, Nat.lt_succ_self _, hc.1, cO_le _ _⟩
    · have := h.2 e z
      exact ⟨this.1, by omega, this.2.2⟩
  · refine ⟨h.1, fun e he => ?_⟩
    have := h.2 e he
    exact ⟨this.1, by omega, this.2.2⟩
theorem cG_I {A : Nat → Nat} {u w sl dr k K : Nat} : ∀ (c j : Nat) (hs : List cT), cI w k K j hs → k ≤ j → cI w k K (j + c) (cG A u w sl dr k K c j hs)
  | 0, _, _, h, _ => h
  | c + 1, j, hs, h, hk => by
    have := cG_I (A := A) (u := u) (sl := sl) (dr := dr) c (j + 1) _ (cI_step (A := A) (u := u) (sl := sl) (dr := dr) h hk) (by omega)
    rw [cG, show j + (c + 1) = j + 1 + c by omega]
    exact this
theorem cI_nil (w k K j : Nat) : cI w k K j [] := ⟨List.Pairwise.nil, fun e he => by cases he⟩
theorem cH_I {A : Nat → Nat} {n u w sl dr k : Nat} (hk : k ≤ n) : cI w k (cK A n u w k) n (cH A n u w sl dr k) := by
  have := cG_I (A := A) (u := u) (sl := sl) (dr := dr) (n - k) k [] (cI_nil w k (cK A n u w k) k) (Nat.le_refl _)
  rw [show k + (n - k) = n by omega] at this
  exact this
/-- the mark of a knock in a row of hits, as the reference has it -/
def mkF (hs : List cT) (j : Nat) : Int32 := match hs with
  | [] => mI 1
  | e :: t => if j = e.1 then nI e.2.1 else mkF t j
def laF (hs : List cT) : Int32 := match hs with
  | [] => mI 1
  | e :: _ => nI e.1
theorem mkF_no : ∀ {hs : List cT} {j : Nat}, (∀ e ∈ hs, e.1 ≠ j) → mkF hs j = mI 1
  | [], _, _ => rfl
  | e :: t, j, h => by
    rw [mkF, if_neg (fun z => h e List.mem_cons_self z.symm)]
    exact mkF_no (fun x hx => h x (List.mem_cons_of_mem _ hx))
theorem mkF_in : ∀ {hs : List cT} {e : cT}, (hs.Pairwise fun a b => b.1 < a.1) → e ∈ hs → mkF hs e.1 = nI e.2.1
  | [], _, _, h => by cases h
  | x :: t, e, hp, h => by
    rw [mkF]
    rcases List.mem_cons.mp h with z | z
    · subst z; rw [if_pos rfl]
    · have := (List.pairwise_cons.mp hp).1 e z
      rw [if_neg (by omega)]
      exact mkF_in (List.pairwise_cons.mp hp).2 z
def sumS (S : Nat → Nat) (hs : List cT) : Nat := match hs with
  | [] => 0
  | e :: t => S e.1 + sumS S t
def maxO (hs : List cT) : Nat := match hs with
  | [] => 0
  | e :: t => max e.2.2 (maxO t)
def okR (u w : Nat) : Prop := 1 ≤ u ∧ u ≤ 1010 * w ∧ 1 ≤ w ∧ w ≤ 100000
/-- angles that rise -/
def okA (A : Nat → Nat) (n : Nat) : Prop := (∀ j k, j ≤ k → k < n → A j ≤ A k) ∧ ∀ j, j < n → A j ≤ 5050000000
theorem cX_b {A : Nat → Nat} {n u w k j : Nat} (hA : okA A n) (hr : okR u w) (hj : j < n) : cX A u k j ≤ 5100500000000 * w := by
  have h1 := hA.2 j hj
  have h2 : A j - A k ≤ 5050000000 := by omega
  have h3 : cX A u k j ≤ 5050000000 * (1010 * w) := Nat.mul_le_mul h2 hr.2.1
  omega
theorem cM_b {w x : Nat} (hw : 1 ≤ w) (hx : x ≤ 5100500000000 * w) : cM w x ≤ 5100501 := by
  have h1 : x / (1000000 * w) ≤ 5100500 := by
    rw [show 1000000 * w = w * 1000000 by omega, ← Nat.div_div_eq_div_mul]
    have h2 : x / w ≤ 5100500000000 := by
      rw [show 5100500000000 = 5100500000000 * w / w by rw [Nat.mul_div_cancel _ (by omega)]]
      exact Nat.div_le_div_right hx
    have h3 : x / w / 1000000 ≤ 5100500000000 / 1000000 := Nat.div_le_div_right h2
    omega
  unfold cM
  split <;> omega
theorem cK_b {A : Nat → Nat} {n u w k : Nat} (hA : okA A n) (hr : okR u w) (hn : 0 < n) : cK A n u w k ≤ 5100501 := by
  have h1 := cX_b (k := k) hA hr (show n - 1 < n by omega)
  have h2 : cX A u k (n - 1) / (1000000 * w) ≤ 5100500 := by
    rw [show 1000000 * w = w * 1000000 by omega, ← Nat.div_div_eq_div_mul]
    have h2 : cX A u k (n - 1) / w ≤ 5100500000000 := by
      rw [show 5100500000000 = 5100500000000 * w / w by rw [Nat.mul_div_cancel _ (by have := hr.2.2.1; omega)]]
      exact Nat.div_le_div_right h1
    have h3 : cX A u k (n - 1) / w / 1000000 ≤ 5100500000000 / 1000000 := Nat.div_le_div_right h2
    omega
  unfold cK
  omega
