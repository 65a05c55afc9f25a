/-! OWN: counting bits side by side: the mathematics of Long.bitCount -/
theorem and_spl {a m k : Nat} (X M : Nat) (ha : a < 2 ^ k) (hm : m < 2 ^ k) : (a + 2 ^ k * X) &&& (m + 2 ^ k * M) = (a &&& m) + 2 ^ k * (X &&& M) := by
  have hp : 0 < 2 ^ k := Nat.two_pow_pos k
  have hb : a &&& m < 2 ^ k := Nat.lt_of_le_of_lt Nat.and_le_left ha
  have e1 : ((a + 2 ^ k * X) &&& (m + 2 ^ k * M)) % 2 ^ k = a &&& m := by
    rw [Nat.and_mod_two_pow, Nat.add_mul_mod_self_left, Nat.add_mul_mod_self_left, Nat.mod_eq_of_lt ha, Nat.mod_eq_of_lt hm]
  have e2 : ((a + 2 ^ k * X) &&& (m + 2 ^ k * M)) / 2 ^ k = X &&& M := by
    rw [Nat.and_div_two_pow, Nat.add_mul_div_left _ _ hp, Nat.add_mul_div_left _ _ hp, Nat.div_eq_of_lt ha, Nat.div_eq_of_lt hm, Nat.zero_add, Nat.zero_add]
  have := Nat.div_add_mod ((a + 2 ^ k * X) &&& (m + 2 ^ k * M)) (2 ^ k)
  rw [e1, e2] at this
  omega
theorem and_spl4 {a m : Nat} (X M : Nat) (ha : a < 4) (hm : m < 4) : (a + 4 * X) &&& (m + 4 * M) = (a &&& m) + 4 * (X &&& M) := and_spl (k := 2) X M ha hm
theorem and_spl16 {a m : Nat} (X M : Nat) (ha : a < 16) (hm : m < 16) : (a + 16 * X) &&& (m + 16 * M) = (a &&& m) + 16 * (X &&& M) := and_spl (k := 4) X M ha hm
theorem and_spl256 {a m : Nat} (X M : Nat) (ha : a < 256) (hm : m < 256) : (a + 256 * X) &&& (m + 256 * M) = (a &&& m) + 256 * (X &&& M) := and_spl (k := 8) X M ha hm
/-- numbers digit by digit: b the base, f the digits, n of them -/
def dg (b : Nat) (f : Nat → Nat) : Nat → Nat → Nat
  | 0, _ => 0
  | n + 1, s => f s + b * dg b f n (s + 1)
def mk (b m : Nat) : Nat → Nat
  | 0 => 0
  | n + 1 => m + b * mk b m n
theorem dg_and4 {f : Nat → Nat} {X : Nat} : ∀ (n s : Nat), (∀ j, f j < 4) → (dg 4 f n s / 2) &&& mk 4 1 n = dg 4 (fun j => f j / 2) n s ∧ dg 4 (fun j => f j / 2) n s ≤ dg 4 f n s
  | 0, s, h => by simp [dg, mk]
  | n + 1, s, h => by
    have ih := dg_and4 (X := X) n (s + 1) h
    have h0 := h s
    have e : dg 4 f (n + 1) s / 2 = (f s / 2 + 2 * (dg 4 f n (s + 1) % 2)) + 4 * (dg 4 f n (s + 1) / 2) := by rw [dg]; omega
    rw [e, mk, and_spl4 _ _ (by omega) (by decide), ih.1]
    have e1 : (f s / 2 + 2 * (dg 4 f n (s + 1) % 2)) &&& 1 = f s / 2 := by
      rw [Nat.and_one_is_mod]; omega
    rw [e1]
    refine ⟨rfl, ?_⟩
    rw [dg, dg]
    have := ih.2
    omega
theorem dg_sub {b : Nat} {f g : Nat → Nat} : ∀ (n s : Nat), (∀ j, g j ≤ f j) → dg b f n s - dg b g n s = dg b (fun j => f j - g j) n s ∧ dg b g n s ≤ dg b f n s
  | 0, s, h => by simp [dg]
  | n + 1, s, h => by
    have ih := dg_sub (b := b) n (s + 1) h
    have h0 := h s
    rw [dg, dg, dg, ← ih.1, Nat.mul_sub]
    have := Nat.mul_le_mul_left b ih.2
    omega
/-- two digits become one -/
theorem dg_two {b : Nat} {f : Nat → Nat} : ∀ (n s : Nat), dg b f (2 * n) (2 * s) = dg (b * b) (fun j => f (2 * j) + b * f (2 * j + 1)) n s
  | 0, s => rfl
  | n + 1, s => by
    have ih := dg_two (b := b) (f := f) n (s + 1)
    rw [show 2 * (n + 1) = 2 * n + 1 + 1 by omega, dg, dg, show 2 * s + 1 + 1 = 2 * (s + 1) by omega, ih, dg, Nat.mul_add, Nat.mul_assoc]
    omega
theorem dg_lt {b : Nat} {f : Nat → Nat} (hb : 0 < b) : ∀ (n s : Nat), (∀ j, f j < b) → dg b f n s < b ^ n
  | 0, s, h => by simp [dg]
  | n + 1, s, h => by
    have ih := dg_lt hb n (s + 1) h
    have h0 := h s
    rw [dg, Nat.pow_succ]
    have : b * (dg b f n (s + 1) + 1) ≤ b * b ^ n := Nat.mul_le_mul_left b ih
    rw [Nat.mul_add, Nat.mul_comm b (b ^ n)] at this
    omega
theorem dg_and16 {f g : Nat → Nat} : ∀ (n s : Nat), (∀ j, f j < 4) → (∀ j, g j < 4) → dg 16 (fun j => f j + 4 * g j) n s &&& mk 16 3 n = dg 16 f n s ∧ (dg 16 (fun j => f j + 4 * g j) n s / 4) &&& mk 16 3 n = dg 16 g n s
  | 0, s, h, k => by simp [dg, mk]
  | n + 1, s, h, k => by
    have ih := dg_and16 n (s + 1) h k
    have h0 := h s
    have k0 := k s
    have a3 : ∀ x, x < 4 → ∀ t, t < 4 → (x + 4 * t) &&& 3 = x := by decide
    rw [dg, dg, dg, mk]
    generalize hY : dg 16 (fun j => f j + 4 * g j) n (s + 1) = Y at *
    have e : (f s + 4 * g s + 16 * Y) / 4 = (g s + 4 * (Y % 4)) + 16 * (Y / 4) := by omega
    rw [e, and_spl16 _ _ (by omega) (by decide), and_spl16 _ _ (by omega) (by decide), ih.1, ih.2, a3 _ h0 _ k0, a3 _ k0 _ (Nat.mod_lt _ (by decide))]
    exact ⟨rfl, rfl⟩
theorem dg_add {b : Nat} {f g : Nat → Nat} : ∀ (n s : Nat), dg b f n s + dg b g n s = dg b (fun j => f j + g j) n s
  | 0, s => rfl
  | n + 1, s => by
    rw [dg, dg, dg, ← dg_add n (s + 1), Nat.mul_add]
    omega
theorem dg_and256 {f g : Nat → Nat} : ∀ (n s : Nat), (∀ j, f j ≤ 4) → (∀ j, g j ≤ 4) → (dg 256 (fun j => f j + 16 * g j) n s + dg 256 (fun j => f j + 16 * g j) n s / 16) &&& mk 256 15 n = dg 256 (fun j => f j + g j) n s ∧ dg 256 (fun j => f j + 16 * g j) n s % 16 ≤ 4
  | 0, s, h, k => by simp [dg, mk]
  | n + 1, s, h, k => by
    have ih := dg_and256 n (s + 1) h k
    have h0 := h s
    have k0 := k s
    have a3 : ∀ x, x < 9 → ∀ t, t < 9 → (x + 16 * t) &&& 15 = x := by decide
    rw [dg, dg, mk]
    generalize hY : dg 256 (fun j => f j + 16 * g j) n (s + 1) = Y at *
    have e : f s + 16 * g s + 256 * Y + (f s + 16 * g s + 256 * Y) / 16 = (f s + g s + 16 * (g s + Y % 16)) + 256 * (Y + Y / 16) := by omega
    rw [e, and_spl256 _ _ (by omega) (by decide), ih.1, a3 _ (by omega) _ (by omega)]
    exact ⟨rfl, by omega⟩
/-- the bits of a number -/
theorem dg_bits (X : Nat) : ∀ (n s : Nat), X / 2 ^ s < 2 ^ n → dg 2 (fun j => X / 2 ^ j % 2) n s = X / 2 ^ s
  | 0, s, h => by
    rw [dg]
    have h2 : X / 2 ^ s < 1 := h
    generalize X / 2 ^ s = y at *
    omega
  | n + 1, s, h => by
    have e : X / 2 ^ (s + 1) = X / 2 ^ s / 2 := by rw [Nat.pow_succ, Nat.div_div_eq_div_mul]
    rw [dg, dg_bits X n (s + 1) (by rw [e]; rw [Nat.pow_succ] at h; omega), e]
    omega
theorem pc_sm (X : Nat) : ∀ (n s : Nat), pcR n (X / 2 ^ s) = smN (fun j => X / 2 ^ (s + j) % 2) n
  | 0, s => rfl
  | n + 1, s => by
    have e : X / 2 ^ s / 2 = X / 2 ^ (s + 1) := by rw [Nat.pow_succ, Nat.div_div_eq_div_mul]
    have e2 : ∀ m (f : Nat → Nat), smN f (m + 1) = f 0 + smN (fun j => f (j + 1)) m := by
      intro m
      induction m with
      | zero => intro f; simp [smN]
      | succ m ih => intro f; rw [smN, ih, smN]; omega
    rw [pcR, e, pc_sm X n (s + 1), e2]
    simp only [Nat.add_zero]
    congr 1
    refine smN_c n (fun j hj => ?_)
    rw [show s + 1 + j = s + (j + 1) by omega]
theorem dg_mono {b : Nat} {f g : Nat → Nat} : ∀ (n s : Nat), (∀ j, f j ≤ g j) → dg b f n s ≤ dg b g n s
  | 0, s, h => Nat.le_refl _
  | n + 1, s, h => by
    rw [dg, dg]
    exact Nat.add_le_add (h s) (Nat.mul_le_mul_left b (dg_mono n (s + 1) h))
theorem dg68 : dg 256 (fun _ => 68) 8 0 = 4919131752989213764 := by decide
theorem dg8 : dg 256 (fun _ => 8) 8 0 = 578721382704613384 := by decide
theorem dg_8 (g : Nat → Nat) : dg 256 g 8 0 = g 0 + 256 * (g 1 + 256 * (g 2 + 256 * (g 3 + 256 * (g 4 + 256 * (g 5 + 256 * (g 6 + 256 * g 7)))))) := rfl
theorem dvq {C r p Q : Nat} (hp : 0 < p) (h : C = r + p * Q) (hr : r < p) : C / p = Q := by
  rw [h, Nat.add_mul_div_left _ _ hp, Nat.div_eq_of_lt hr, Nat.zero_add]
theorem bc_end {a0 a1 a2 a3 a4 a5 a6 a7 C : Nat} (h0 : a0 ≤ 8) (h1 : a1 ≤ 8) (h2 : a2 ≤ 8) (h3 : a3 ≤ 8) (h4 : a4 ≤ 8) (h5 : a5 ≤ 8) (h6 : a6 ≤ 8) (h7 : a7 ≤ 8) (hC : C = a0 + 256 * (a1 + 256 * (a2 + 256 * (a3 + 256 * (a4 + 256 * (a5 + 256 * (a6 + 256 * a7))))))) : ((C + C / 256 + (C + C / 256) / 65536) + (C + C / 256 + (C + C / 256) / 65536) / 4294967296) % 128 = a0 + a1 + a2 + a3 + a4 + a5 + a6 + a7 := by
  obtain ⟨K6, k6⟩ : ∃ K, K = a6 + 256 * a7 := ⟨_, rfl⟩
  obtain ⟨K5, k5⟩ : ∃ K, K = a5 + 256 * K6 := ⟨_, rfl⟩
  obtain ⟨K4, k4⟩ : ∃ K, K = a4 + 256 * K5 := ⟨_, rfl⟩
  obtain ⟨K3, k3⟩ : ∃ K, K = a3 + 256 * K4 := ⟨_, rfl⟩
  obtain ⟨K2, k2⟩ : ∃ K, K = a2 + 256 * K3 := ⟨_, rfl⟩
  obtain ⟨K1, k1⟩ : ∃ K, K = a1 + 256 * K2 := ⟨_, rfl⟩
  rw [← k6, ← k5, ← k4, ← k3, ← k2, ← k1] at hC
  have e1 : C / 256 = K1 := dvq (by decide) hC (by omega)
  rw [e1]
  have e2 : (C + K1) / 65536 = K2 + K3 := dvq (r := (a0 + a1) + 256 * (a1 + a2)) (by decide) (by rw [hC, k1, k2]; clear hC e1 k1 k2 k3 k4 k5 k6; omega) (by clear hC e1 k1 k2 k3 k4 k5 k6; omega)
  rw [e2]
  have e3 : C + K1 + (K2 + K3) = (a0 + a1 + a2 + a3) + 256 * (a1 + a2 + a3 + K4 + 256 * (a2 + a3 + K4 + 256 * (a3 + K4 + 256 * K4))) := by rw [hC, k1, k2, k3]; clear hC e1 e2 k1 k2 k3 k4 k5 k6; omega
  have e4 : (C + K1 + (K2 + K3)) / 4294967296 = K4 + K5 + K6 + a7 := dvq (r := (a0 + a1 + a2 + a3) + 256 * (a1 + a2 + a3 + a4) + 65536 * (a2 + a3 + a4 + a5) + 16777216 * (a3 + a4 + a5 + a6)) (by decide) (by rw [e3, k4, k5, k6]; clear hC e1 e2 e3 k1 k2 k3 k4 k5 k6; omega) (by clear hC e1 e2 e3 k1 k2 k3 k4 k5 k6; omega)
  rw [e4, e3, k4, k5, k6]
  clear hC e1 e2 e3 e4 k1 k2 k3 k4 k5 k6
  omega
theorem sm8 (t : Nat → Nat) : ∀ n, smN (fun j => t j) (8 * n) = smN (fun j => t (8 * j) + t (8 * j + 1) + (t (8 * j + 2) + t (8 * j + 3)) + (t (8 * j + 4) + t (8 * j + 5) + (t (8 * j + 6) + t (8 * j + 7)))) n
  | 0 => rfl
  | n + 1 => by
    have ih := sm8 t n
    rw [show 8 * (n + 1) = 8 * n + 1 + 1 + 1 + 1 + 1 + 1 + 1 + 1 by omega, smN, smN, smN, smN, smN, smN, smN, smN, smN, ih]
    simp only [Nat.add_assoc]
theorem mk5 : mk 4 1 (2 * (2 * 8)) = 6148914691236517205 := by decide
theorem mk3 : mk 16 3 (2 * 8) = 3689348814741910323 := by decide
theorem mkf : mk 256 15 8 = 1085102592571150095 := by decide
/-- four bits of a byte, the other four, all eight -/
def bf4 (t : Nat → Nat) (j : Nat) : Nat := t (8 * j) + t (8 * j + 1) + (t (8 * j + 2) + t (8 * j + 3))
def bg4 (t : Nat → Nat) (j : Nat) : Nat := t (8 * j + 4) + t (8 * j + 5) + (t (8 * j + 6) + t (8 * j + 7))
theorem bc_gen {t : Nat → Nat} {K X : Nat} (ht2 : ∀ j, t j < 2) (e0 : X = dg 4 (fun j => t (2 * j) + 2 * t (2 * j + 1)) (2 * (2 * K)) 0) : ∃ A B : Nat, X - ((X / 2) &&& mk 4 1 (2 * (2 * K))) = A ∧ (X / 2) &&& mk 4 1 (2 * (2 * K)) ≤ X ∧ (A &&& mk 16 3 (2 * K)) + ((A / 4) &&& mk 16 3 (2 * K)) = B ∧ B = dg 256 (fun j => bf4 t j + 16 * bg4 t j) K 0 ∧ (B + B / 16) &&& mk 256 15 K = dg 256 (fun j => bf4 t j + bg4 t j) K 0 := by
  have f4 : ∀ j, t (2 * j) + 2 * t (2 * j + 1) < 4 := fun j => by have := ht2 (2 * j); have := ht2 (2 * j + 1); omega
  have s1 := dg_and4 (X := X) (2 * (2 * K)) 0 f4
  rw [← e0] at s1
  have e1 : X - dg 4 (fun j => (t (2 * j) + 2 * t (2 * j + 1)) / 2) (2 * (2 * K)) 0 = dg 4 (fun j => t (2 * j) + t (2 * j + 1)) (2 * (2 * K)) 0 := by
    have := (dg_sub (b := 4) (f := fun j => t (2 * j) + 2 * t (2 * j + 1)) (g := fun j => (t (2 * j) + 2 * t (2 * j + 1)) / 2) (2 * (2 * K)) 0 (fun j => by omega)).1
    rw [← e0] at this
    rw [this]
    congr 1
    funext j
    have := ht2 (2 * j)
    have := ht2 (2 * j + 1)
    omega
  have e2 : dg 4 (fun j => t (2 * j) + t (2 * j + 1)) (2 * (2 * K)) 0 = dg 16 (fun j => (t (4 * j) + t (4 * j + 1)) + 4 * (t (4 * j + 2) + t (4 * j + 3))) (2 * K) 0 := by
    have := dg_two (b := 4) (f := fun j => t (2 * j) + t (2 * j + 1)) (2 * K) 0
    rw [show 2 * 0 = 0 from rfl, show 4 * 4 = 16 from rfl] at this
    rw [this]
    congr 1
    funext j
    rw [show 2 * (2 * j) = 4 * j by omega, show 2 * (2 * j + 1) = 4 * j + 2 by omega]
  have s2 := dg_and16 (f := fun j => t (4 * j) + t (4 * j + 1)) (g := fun j => t (4 * j + 2) + t (4 * j + 3)) (2 * K) 0 (fun j => by have := ht2 (4 * j); have := ht2 (4 * j + 1); omega) (fun j => by have := ht2 (4 * j + 2); have := ht2 (4 * j + 3); omega)
  have e3 : dg 16 (fun j => t (4 * j) + t (4 * j + 1)) (2 * K) 0 + dg 16 (fun j => t (4 * j + 2) + t (4 * j + 3)) (2 * K) 0 = dg 256 (fun j => bf4 t j + 16 * bg4 t j) K 0 := by
    rw [dg_add]
    have := dg_two (b := 16) (f := fun j => t (4 * j) + t (4 * j + 1) + (t (4 * j + 2) + t (4 * j + 3))) K 0
    rw [show 2 * 0 = 0 from rfl, show 16 * 16 = 256 from rfl] at this
    rw [this]
    congr 1
    funext j
    unfold bf4 bg4
    rw [show 4 * (2 * j) = 8 * j by omega, show 4 * (2 * j + 1) = 8 * j + 4 by omega]
  have hf4 : ∀ j, bf4 t j ≤ 4 := fun j => by unfold bf4; have := ht2 (8 * j); have := ht2 (8 * j + 1); have := ht2 (8 * j + 2); have := ht2 (8 * j + 3); omega
  have hg4 : ∀ j, bg4 t j ≤ 4 := fun j => by unfold bg4; have := ht2 (8 * j + 4); have := ht2 (8 * j + 5); have := ht2 (8 * j + 6); have := ht2 (8 * j + 7); omega
  have s3 := (dg_and256 (f := bf4 t) (g := bg4 t) K 0 hf4 hg4).1
  refine ⟨_, _, rfl, by rw [s1.1]; exact s1.2, rfl, ?_, ?_⟩
  · rw [s1.1, e1, e2, s2.1, s2.2, e3]
  · rw [s1.1, e1, e2, s2.1, s2.2, e3, s3]
/-- Long.bitCount, step by step, on a number below 2^64 -/
theorem bc_eq {X : Nat} (hX : X < 18446744073709551616) : ∃ A B C : Nat, X - ((X / 2) &&& 6148914691236517205) = A ∧ (X / 2) &&& 6148914691236517205 ≤ X ∧ (A &&& 3689348814741910323) + ((A / 4) &&& 3689348814741910323) = B ∧ (B + B / 16) &&& 1085102592571150095 = C ∧ B + B / 16 < 18446744073709551616 ∧ C ≤ 578721382704613384 ∧ ((C + C / 256 + (C + C / 256) / 65536) + (C + C / 256 + (C + C / 256) / 65536) / 4294967296) % 128 = pcR 64 X := by
  have hpc := pc_sm X 64 0
  have e0 : X = dg 4 (fun j => X / 2 ^ (2 * j) % 2 + 2 * (X / 2 ^ (2 * j + 1) % 2)) (2 * (2 * 8)) 0 := by
    have := dg_bits X (2 * (2 * (2 * 8))) 0 (by rw [Nat.pow_zero, Nat.div_one]; exact hX)
    rw [Nat.pow_zero, Nat.div_one] at this
    have h2 := dg_two (b := 2) (f := fun j => X / 2 ^ j % 2) (2 * (2 * 8)) 0
    exact this.symm.trans h2
  rw [Nat.pow_zero, Nat.div_one] at hpc
  have hbit : ∀ j, X / 2 ^ j % 2 < 2 := fun j => Nat.mod_lt _ (by decide)
  obtain ⟨A, B, a1, a2, a3, a4, a5⟩ := bc_gen (t := fun j => X / 2 ^ j % 2) (K := 8) hbit e0
  generalize hb : (fun j => X / 2 ^ j % 2) = t at *
  have ht : ∀ j, X / 2 ^ j % 2 = t j := fun j => by rw [← hb]
  have ht2 : ∀ j, t j < 2 := fun j => by rw [← ht]; exact hbit j
  have hf4 : ∀ j, bf4 t j ≤ 4 := fun j => by unfold bf4; have := ht2 (8 * j); have := ht2 (8 * j + 1); have := ht2 (8 * j + 2); have := ht2 (8 * j + 3); omega
  have hg4 : ∀ j, bg4 t j ≤ 4 := fun j => by unfold bg4; have := ht2 (8 * j + 4); have := ht2 (8 * j + 5); have := ht2 (8 * j + 6); have := ht2 (8 * j + 7); omega
  rw [mk5] at a1 a2
  rw [mk3] at a3
  rw [mkf] at a5
  have hB : B ≤ 4919131752989213764 := by
    rw [a4, ← dg68]
    exact dg_mono 8 0 (fun j => by have := hf4 j; have := hg4 j; show _ ≤ 68; omega)
  have hC : dg 256 (fun j => bf4 t j + bg4 t j) 8 0 ≤ 578721382704613384 := by
    rw [← dg8]
    exact dg_mono 8 0 (fun j => by have := hf4 j; have := hg4 j; show _ ≤ 8; omega)
  have h8 : ∀ j, bf4 t j + bg4 t j ≤ 8 := fun j => by have := hf4 j; have := hg4 j; omega
  refine ⟨A, B, _, a1, a2, a3, a5, by omega, hC, ?_⟩
  rw [bc_end (h8 0) (h8 1) (h8 2) (h8 3) (h8 4) (h8 5) (h8 6) (h8 7) (dg_8 _), hpc]
  simp only [Nat.zero_add, ht]
  have hsm : smN (fun j => t j) 64 = smN (fun j => bf4 t j + bg4 t j) 8 := sm8 t 8
  rw [hsm]
  simp only [smN, Nat.zero_add]
