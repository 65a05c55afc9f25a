/-! OWN: counters never fall; a body is walked to its end -/
abbrev kLe (h h' : kH) : Prop := h.2.1 ≤ h'.2.1 ∧ h.2.2 ≤ h'.2.2
theorem kLe.of {h h' : kH} (e : h'.2 = h.2) : kLe h h' := ⟨Nat.le_of_eq (by rw [e]), Nat.le_of_eq (by rw [e])⟩
theorem kLe.rf (h : kH) : kLe h h := ⟨Nat.le_refl _, Nat.le_refl _⟩
theorem kLe.tr {a b c : kH} (x : kLe a b) (y : kLe b c) : kLe a c := ⟨Nat.le_trans x.1 y.1, Nat.le_trans x.2 y.2⟩
theorem kput_c {h h1 : kH} {a q b : Nat} {ty : FieldType} {v : Value} (g : kput h a q b ty v = some h1) : kLe h h1 := by
  unfold kput at g
  split at g
  · split at g
    · cases g; exact kLe.rf _
    · cases g
  · cases g
theorem kis_c {h h1 : kH} {q : Nat} {i v : Int32} (g : kis_ h q i v = some h1) : kLe h h1 := by
  unfold kis_ at g
  split at g
  · split at g
    · cases g; exact kLe.rf _
    · cases g
  · cases g
theorem kbs_c {h h1 : kH} {q : Nat} {i v : Int32} (g : kbs h q i v = some h1) : kLe h h1 := by
  unfold kbs at g
  split at g
  · split at g
    · cases g; exact kLe.rf _
    · cases g
  · split at g
    · cases g; exact kLe.rf _
    · cases g
  · cases g
theorem kls_c {h h1 : kH} {q : Nat} {i : Int32} {v : Int64} (g : kls h q i v = some h1) : kLe h h1 := by
  unfold kls at g
  split at g
  · split at g
    · cases g; exact kLe.rf _
    · cases g
  · cases g
theorem kas_c {h h1 : kH} {a q v : Nat} {i : Int32} (g : kas h a q i v = some h1) : kLe h h1 := by
  unfold kas at g
  split at g
  · split at g
    · cases g; exact kLe.rf _
    · cases g
  · cases g
theorem kcopy_c {h h1 : kH} {a b : Nat} {i j n : Int32} (g : kcopy h a i b j n = some h1) : kLe h h1 := by
  unfold kcopy at g
  split at g
  · split at g
    · cases g; exact kLe.rf _
    · cases g
  · split at g
    · cases g; exact kLe.rf _
    · cases g
  · cases g
theorem knew_c {h : kH} {e : kE} {n : Nat} : kLe h (knew h e n) := ⟨Nat.le_succ _, Nat.le_add_right _ _⟩
theorem krr_c {o : Option kR} {pc pc' : Nat} {L L' : kL} {S' R1 : List Value} {h h' : kH} (hc : ∀ (r : Option Value) (h' : kH), o = some (r, h') → kLe h h') (g : krr o pc L R1 = some (.inl (pc', L', S', h'))) : kLe h h' := by
  obtain ⟨r, e, -⟩ := k_rr g
  exact hc r h' e
set_option maxHeartbeats 4000000 in
theorem kstep_mono {t : kT} {call : Nat → List Value → kH → Option kR} (hcall : ∀ (y : Nat) (As : List Value) (h : kH) (r : Option Value) (h' : kH), call y As h = some (r, h') → kLe h h') {pc pc' : Nat} {L L' : kL} {S S' : List Value} {h h' : kH} (hst : kstep call kdef kty t (pc, L, S, h) = some (.inl (pc', L', S', h'))) : kLe h h' := by
  obtain ⟨i, n, a, b, x, -, hst⟩ := kstep_inv hst
  cases i with
  | iconst v =>
    obtain ⟨-, -, -, rfl⟩ := k_go hst
    exact kLe.rf _
  | bipush v =>
    obtain ⟨-, -, -, rfl⟩ := k_go hst
    exact kLe.rf _
  | sipush v =>
    obtain ⟨-, -, -, rfl⟩ := k_go hst
    exact kLe.rf _
  | lconst v =>
    obtain ⟨-, -, -, rfl⟩ := k_go hst
    exact kLe.rf _
  | ldc k =>
    obtain ⟨-, -, -, rfl⟩ := k_go hst
    exact kLe.rf _
  | ldc2_w k =>
    obtain ⟨-, -, -, rfl⟩ := k_go hst
    exact kLe.rf _
  | iushr =>
    obtain ⟨-, -, -, -, -, -, -, rfl⟩ := k_i2 hst
    exact kLe.rf _
  | dup_x1 =>
    simp only [kex, kdx1] at hst
    split at hst
    · split at hst
      · obtain ⟨-, -, -, rfl⟩ := k_go hst
        exact kLe.rf _
      · cases hst
    · cases hst
  | ifnonnull o =>
    simp only [kex, knn] at hst
    split at hst
    · obtain ⟨-, -, -, rfl⟩ := k_go hst
      exact kLe.rf _
    · obtain ⟨-, -, -, rfl⟩ := k_go hst
      exact kLe.rf _
    · cases hst
  | goto o =>
    obtain ⟨-, -, -, rfl⟩ := k_go hst
    exact kLe.rf _
  | getstatic k =>
    obtain ⟨-, -, -, rfl⟩ := k_go hst
    exact kLe.rf _
  | iload k =>
    obtain ⟨-, -, -, -, -, rfl⟩ := k_ldi hst
    exact kLe.rf _
  | iload_n k =>
    obtain ⟨-, -, -, -, -, rfl⟩ := k_ldi hst
    exact kLe.rf _
  | lload k =>
    obtain ⟨-, -, -, -, -, rfl⟩ := k_ldl hst
    exact kLe.rf _
  | lload_n k =>
    obtain ⟨-, -, -, -, -, rfl⟩ := k_ldl hst
    exact kLe.rf _
  | aload k =>
    rcases k_lda hst with ⟨-, -, -, -, -, rfl⟩ | ⟨-, -, -, -, rfl⟩ <;> exact kLe.rf _
  | aload_n k =>
    rcases k_lda hst with ⟨-, -, -, -, -, rfl⟩ | ⟨-, -, -, -, rfl⟩ <;> exact kLe.rf _
  | istore k =>
    obtain ⟨-, -, -, -, -, -, -, rfl⟩ := k_sti hst
    exact kLe.rf _
  | istore_n k =>
    obtain ⟨-, -, -, -, -, -, -, rfl⟩ := k_sti hst
    exact kLe.rf _
  | lstore k =>
    obtain ⟨-, -, -, -, -, -, -, rfl⟩ := k_stl hst
    exact kLe.rf _
  | lstore_n k =>
    obtain ⟨-, -, -, -, -, -, -, rfl⟩ := k_stl hst
    exact kLe.rf _
  | astore k =>
    rcases k_sta hst with ⟨-, -, -, -, -, -, -, rfl⟩ | ⟨-, -, -, -, -, -, rfl⟩ <;> exact kLe.rf _
  | astore_n k =>
    rcases k_sta hst with ⟨-, -, -, -, -, -, -, rfl⟩ | ⟨-, -, -, -, -, -, rfl⟩ <;> exact kLe.rf _
  | iadd =>
    obtain ⟨-, -, -, -, -, -, -, rfl⟩ := k_i2 hst
    exact kLe.rf _
  | isub =>
    obtain ⟨-, -, -, -, -, -, -, rfl⟩ := k_i2 hst
    exact kLe.rf _
  | imul =>
    obtain ⟨-, -, -, -, -, -, -, rfl⟩ := k_i2 hst
    exact kLe.rf _
  | iand =>
    obtain ⟨-, -, -, -, -, -, -, rfl⟩ := k_i2 hst
    exact kLe.rf _
  | ior =>
    obtain ⟨-, -, -, -, -, -, -, rfl⟩ := k_i2 hst
    exact kLe.rf _
  | ishl =>
    obtain ⟨-, -, -, -, -, -, -, rfl⟩ := k_i2 hst
    exact kLe.rf _
  | ishr =>
    obtain ⟨-, -, -, -, -, -, -, rfl⟩ := k_i2 hst
    exact kLe.rf _
  | ladd =>
    obtain ⟨-, -, -, -, -, -, -, rfl⟩ := k_l2 hst
    exact kLe.rf _
  | lsub =>
    obtain ⟨-, -, -, -, -, -, -, rfl⟩ := k_l2 hst
    exact kLe.rf _
  | lmul =>
    obtain ⟨-, -, -, -, -, -, -, rfl⟩ := k_l2 hst
    exact kLe.rf _
  | land =>
    obtain ⟨-, -, -, -, -, -, -, rfl⟩ := k_l2 hst
    exact kLe.rf _
  | lor =>
    obtain ⟨-, -, -, -, -, -, -, rfl⟩ := k_l2 hst
    exact kLe.rf _
  | lxor =>
    obtain ⟨-, -, -, -, -, -, -, rfl⟩ := k_l2 hst
    exact kLe.rf _
  | iinc k v =>
    simp only [kex, kinc] at hst
    split at hst
    · obtain ⟨-, -, -, rfl⟩ := k_go hst
      exact kLe.rf _
    · cases hst
  | ineg =>
    simp only [kex, kii] at hst
    split at hst
    · obtain ⟨-, -, -, rfl⟩ := k_go hst
      exact kLe.rf _
    · cases hst
  | lneg =>
    simp only [kex, klll] at hst
    split at hst
    · obtain ⟨-, -, -, rfl⟩ := k_go hst
      exact kLe.rf _
    · cases hst
  | lshl =>
    simp only [kex, ksh] at hst
    split at hst
    · obtain ⟨-, -, -, rfl⟩ := k_go hst
      exact kLe.rf _
    · cases hst
  | lushr =>
    simp only [kex, ksh] at hst
    split at hst
    · obtain ⟨-, -, -, rfl⟩ := k_go hst
      exact kLe.rf _
    · cases hst
  | i2l =>
    simp only [kex, kitl] at hst
    split at hst
    · obtain ⟨-, -, -, rfl⟩ := k_go hst
      exact kLe.rf _
    · cases hst
  | l2i =>
    simp only [kex, klti] at hst
    split at hst
    · obtain ⟨-, -, -, rfl⟩ := k_go hst
      exact kLe.rf _
    · cases hst
  | i2b =>
    simp only [kex, kii] at hst
    split at hst
    · obtain ⟨-, -, -, rfl⟩ := k_go hst
      exact kLe.rf _
    · cases hst
  | i2c =>
    simp only [kex, kii] at hst
    split at hst
    · obtain ⟨-, -, -, rfl⟩ := k_go hst
      exact kLe.rf _
    · cases hst
  | lcmp =>
    simp only [kex, klc] at hst
    split at hst
    · obtain ⟨-, -, -, rfl⟩ := k_go hst
      exact kLe.rf _
    · cases hst
  | idiv =>
    simp only [kex, kdi] at hst
    split at hst
    · split at hst
      · cases hst
      · obtain ⟨-, -, -, rfl⟩ := k_go hst
        exact kLe.rf _
    · cases hst
  | irem =>
    simp only [kex, kdi] at hst
    split at hst
    · split at hst
      · cases hst
      · obtain ⟨-, -, -, rfl⟩ := k_go hst
        exact kLe.rf _
    · cases hst
  | ldiv =>
    simp only [kex, kdl] at hst
    split at hst
    · split at hst
      · cases hst
      · obtain ⟨-, -, -, rfl⟩ := k_go hst
        exact kLe.rf _
    · cases hst
  | lrem =>
    simp only [kex, kdl] at hst
    split at hst
    · split at hst
      · cases hst
      · obtain ⟨-, -, -, rfl⟩ := k_go hst
        exact kLe.rf _
    · cases hst
  | dup =>
    simp only [kex, kdup] at hst
    split at hst
    · split at hst
      · obtain ⟨-, -, -, rfl⟩ := k_go hst
        exact kLe.rf _
      · cases hst
    · cases hst
  | pop =>
    simp only [kex, kpop] at hst
    split at hst
    · split at hst
      · obtain ⟨-, -, -, rfl⟩ := k_go hst
        exact kLe.rf _
      · cases hst
    · cases hst
  | dup2 =>
    simp only [kex, kdup2] at hst
    split at hst
    · split at hst
      · obtain ⟨-, -, -, rfl⟩ := k_go hst
        exact kLe.rf _
      · cases hst
    · cases hst
  | ifCond q o =>
    simp only [kex, kb1] at hst
    split at hst
    · obtain ⟨-, -, -, rfl⟩ := k_br hst
      exact kLe.rf _
    · cases hst
  | if_icmp q o =>
    simp only [kex, kb2] at hst
    split at hst
    · obtain ⟨-, -, -, rfl⟩ := k_br hst
      exact kLe.rf _
    · cases hst
  | tableswitch dd lo hi offs =>
    simp only [kex, kts] at hst
    split at hst
    · obtain ⟨-, -, -, -, -, rfl⟩ := k_sw hst
      exact kLe.rf _
    · cases hst
  | lookupswitch dd ps =>
    simp only [kex, klk] at hst
    split at hst
    · obtain ⟨-, -, -, -, -, rfl⟩ := k_sw hst
      exact kLe.rf _
    · cases hst
  | getfield k =>
    simp only [kex, kgf] at hst
    split at hst
    · obtain ⟨v, hv, hz⟩ := k_map hst
      cases hz
      exact kLe.rf _
    · cases hst
  | arraylength =>
    simp only [kex, kal_] at hst
    split at hst
    · obtain ⟨v, hv, hz⟩ := k_map hst
      cases hz
      exact kLe.rf _
    · cases hst
  | iaload =>
    simp only [kex, kia] at hst
    split at hst
    · obtain ⟨v, hv, hz⟩ := k_map hst
      cases hz
      exact kLe.rf _
    · cases hst
  | baload =>
    simp only [kex, kba] at hst
    split at hst
    · obtain ⟨v, hv, hz⟩ := k_map hst
      cases hz
      exact kLe.rf _
    · cases hst
  | laload =>
    simp only [kex, kla] at hst
    split at hst
    · obtain ⟨v, hv, hz⟩ := k_map hst
      cases hz
      exact kLe.rf _
    · cases hst
  | aaload =>
    simp only [kex, kaa] at hst
    split at hst
    · obtain ⟨v, hv, hz⟩ := k_map hst
      cases hz
      exact kLe.rf _
    · cases hst
  | putfield k =>
    simp only [kex, kpf] at hst
    split at hst
    · obtain ⟨v, hv, hz⟩ := k_map hst
      cases hz
      exact kput_c hv
    · cases hst
  | iastore =>
    simp only [kex, kiS] at hst
    split at hst
    · obtain ⟨v, hv, hz⟩ := k_map hst
      cases hz
      exact kis_c hv
    · cases hst
  | bastore =>
    simp only [kex, kbS] at hst
    split at hst
    · obtain ⟨v, hv, hz⟩ := k_map hst
      cases hz
      exact kbs_c hv
    · cases hst
  | lastore =>
    simp only [kex, klS] at hst
    split at hst
    · obtain ⟨v, hv, hz⟩ := k_map hst
      cases hz
      exact kls_c hv
    · cases hst
  | aastore =>
    simp only [kex, kaS] at hst
    split at hst
    · obtain ⟨v, hv, hz⟩ := k_map hst
      cases hz
      exact kas_c hv
    · cases hst
  | new k =>
    obtain ⟨-, -, -, rfl⟩ := k_go hst
    exact knew_c
  | newarray ty =>
    simp only [kex, kna] at hst
    split at hst
    · split at hst
      · obtain ⟨v, hv, hz⟩ := k_map hst
        cases hz
        exact knew_c
      · cases hst
    · cases hst
  | anewarray k =>
    simp only [kex, knq] at hst
    split at hst
    · split at hst
      · obtain ⟨-, -, -, rfl⟩ := k_go hst
        exact knew_c
      · cases hst
    · cases hst
  | invokevirtual k =>
    simp only [kex, kiv] at hst
    split at hst
    · split at hst
      · exact krr_c (fun r h' z => hcall _ _ _ _ _ z) hst
      · cases hst
    · cases hst
  | invokespecial k =>
    simp only [kex, kip] at hst
    split at hst
    · split at hst
      · split at hst
        · obtain ⟨-, -, -, rfl⟩ := k_go hst
          exact kLe.rf _
        · split at hst
          · split at hst
            · exact krr_c (fun r h' z => hcall _ _ _ _ _ z) hst
            · cases hst
          · exact krr_c (fun r h' z => hcall _ _ _ _ _ z) hst
      · cases hst
    · cases hst
  | invokestatic k =>
    simp only [kex, kit] at hst
    split at hst
    · unfold kcp at hst
      split at hst
      · split at hst
        · obtain ⟨v, hv, hz⟩ := k_map hst
          cases hz
          exact kcopy_c hv
        · cases hst
      · cases hst
    · split at hst
      · exact krr_c (fun r h' z => hcall _ _ _ _ _ z) hst
      · cases hst
  | ireturn =>
    simp only [kex, kri] at hst
    split at hst <;> (try split at hst) <;> cases hst
  | lreturn =>
    simp only [kex, krl] at hst
    split at hst <;> (try split at hst) <;> cases hst
  | areturn =>
    simp only [kex, kra] at hst
    split at hst <;> (try split at hst) <;> cases hst
  | return_ =>
    simp only [kex, krv] at hst
    split at hst <;> (try split at hst) <;> cases hst
  | _ => cases hst
/-- a method's end -/
def kEndI (I : kMI) (pc : Nat) (S : List Value) (r : Option Value) : Prop :=
  (∃ v : Int32, S = [.int v] ∧ r = some (.int v) ∧ decode I.2.1 pc = .ok (.ireturn, 1) ∧ ∃ ty : FieldType, I.2.2.2.1 = some ty ∧ (ty = .int ∨ narrow ty (.int v) = .int v)) ∨
  (∃ v : Int64, S = [.long v] ∧ r = some (.long v) ∧ decode I.2.1 pc = .ok (.lreturn, 1) ∧ I.2.2.2.1 = some .long) ∨
  (∃ v : Nat, S = [.ref v] ∧ r = some (.ref v) ∧ decode I.2.1 pc = .ok (.areturn, 1) ∧ ∃ ty : FieldType, I.2.2.2.1 = some ty ∧ ((∃ C : String, ty = .object C) ∨ ∃ C : FieldType, ty = .array C)) ∨
  (S = [] ∧ r = none ∧ decode I.2.1 pc = .ok (.return_, 1) ∧ I.2.2.2.1 = none)
set_option maxHeartbeats 4000000 in
theorem kstep_end {I : kMI} {t : kT} (hok : ∀ q ∈ t, kOkI I q) {call : Nat → List Value → kH → Option kR} {pc : Nat} {L : kL} {S : List Value} {h h' : kH} {r : Option Value} (hst : kstep call kdef kty t (pc, L, S, h) = some (.inr (r, h'))) : h' = h ∧ kEndI I pc S r := by
  obtain ⟨i, n, a, b, x, hg, hst⟩ := kstep_inv hst
  obtain ⟨hd, hw, hk⟩ := hok _ (kget_mem t pc _ hg)
  have hd : decode I.2.1 pc = .ok (i, n) := hd
  clear hok hg hw
  cases i with
  | ireturn =>
    simp only [kex, kri] at hst
    split at hst
    · split at hst
      · rename_i v hv
        cases hst
        simp only [kct, Bool.and_eq_true, beq_iff_eq, Bool.or_eq_true, decide_eq_true_eq] at hk
        obtain ⟨rfl, hk⟩ := hk
        refine ⟨rfl, Or.inl ⟨_, rfl, rfl, hd, ?_⟩⟩
        rcases hk with ⟨h1, h2⟩ | ⟨h1, h2⟩ | ⟨h1, h2⟩ | ⟨h1, h2⟩
        · exact ⟨_, h2, Or.inl rfl⟩
        · refine ⟨_, h2, Or.inr ?_⟩
          rcases hv with h3 | h3 | h3 | h3
          · omega
          · rcases h3.2 with z | z <;> (rw [z]; rfl)
          · omega
          · omega
        · refine ⟨_, h2, Or.inr ?_⟩
          rcases hv with h3 | h3 | h3 | h3
          · omega
          · omega
          · rw [← h3.2]
            exact pk_nb _
          · omega
        · refine ⟨_, h2, Or.inr ?_⟩
          rcases hv with h3 | h3 | h3 | h3
          · omega
          · omega
          · omega
          · show Value.int _ = Value.int _
            exact congrArg Value.int h3.2
      · cases hst
    · cases hst
  | lreturn =>
    simp only [kex, krl] at hst
    split at hst
    · cases hst
      simp only [kct, Bool.and_eq_true, beq_iff_eq, decide_eq_true_eq] at hk
      obtain ⟨rfl, hk⟩ := hk
      exact ⟨rfl, Or.inr (Or.inl ⟨_, rfl, rfl, hd, hk⟩)⟩
    · cases hst
  | areturn =>
    simp only [kex, kra] at hst
    split at hst
    · cases hst
      simp only [kct, Bool.and_eq_true, beq_iff_eq] at hk
      obtain ⟨rfl, hk⟩ := hk
      refine ⟨rfl, Or.inr (Or.inr (Or.inl ⟨_, rfl, rfl, hd, ?_⟩))⟩
      split at hk
      · exact ⟨_, by assumption, Or.inl ⟨_, rfl⟩⟩
      · exact ⟨_, by assumption, Or.inr ⟨_, rfl⟩⟩
      · cases hk
    · cases hst
  | return_ =>
    simp only [kex, krv] at hst
    split at hst
    · cases hst
      simp only [kct, Bool.and_eq_true, beq_iff_eq, decide_eq_true_eq] at hk
      obtain ⟨rfl, hk⟩ := hk
      exact ⟨rfl, Or.inr (Or.inr (Or.inr ⟨rfl, rfl, hd, hk⟩))⟩
    · cases hst
  | iushr =>
    simp only [kex, ki2] at hst
    split at hst <;> simp [kgo] at hst
  | dup_x1 =>
    simp only [kex, kdx1] at hst
    split at hst <;> (try split at hst) <;> simp [kgo] at hst
  | ifnonnull o =>
    simp only [kex, knn] at hst
    split at hst <;> simp [kgo] at hst
  | iconst v =>
    simp [kex, kgo] at hst
  | bipush v =>
    simp [kex, kgo] at hst
  | sipush v =>
    simp [kex, kgo] at hst
  | lconst v =>
    simp [kex, kgo] at hst
  | ldc k =>
    simp [kex, kgo] at hst
  | ldc2_w k =>
    simp [kex, kgo] at hst
  | goto o =>
    simp [kex, kgo] at hst
  | getstatic k =>
    simp [kex, kgo] at hst
  | new k =>
    simp [kex, kgo] at hst
  | iload k =>
    simp only [kex, kldi] at hst
    split at hst <;> simp [kgo] at hst
  | iload_n k =>
    simp only [kex, kldi] at hst
    split at hst <;> simp [kgo] at hst
  | lload k =>
    simp only [kex, kldl] at hst
    split at hst <;> simp [kgo] at hst
  | lload_n k =>
    simp only [kex, kldl] at hst
    split at hst <;> simp [kgo] at hst
  | aload k =>
    simp only [kex, klda] at hst
    split at hst <;> simp [kgo] at hst
  | aload_n k =>
    simp only [kex, klda] at hst
    split at hst <;> simp [kgo] at hst
  | istore k =>
    simp only [kex, ksti] at hst
    split at hst <;> (try split at hst) <;> simp [kgo] at hst
  | istore_n k =>
    simp only [kex, ksti] at hst
    split at hst <;> (try split at hst) <;> simp [kgo] at hst
  | lstore k =>
    simp only [kex, kstl] at hst
    split at hst <;> (try split at hst) <;> simp [kgo] at hst
  | lstore_n k =>
    simp only [kex, kstl] at hst
    split at hst <;> (try split at hst) <;> simp [kgo] at hst
  | astore k =>
    simp only [kex, ksta] at hst
    split at hst <;> (try split at hst) <;> simp [kgo] at hst
  | astore_n k =>
    simp only [kex, ksta] at hst
    split at hst <;> (try split at hst) <;> simp [kgo] at hst
  | iadd =>
    simp only [kex, ki2] at hst
    split at hst <;> simp [kgo] at hst
  | isub =>
    simp only [kex, ki2] at hst
    split at hst <;> simp [kgo] at hst
  | imul =>
    simp only [kex, ki2] at hst
    split at hst <;> simp [kgo] at hst
  | iand =>
    simp only [kex, ki2] at hst
    split at hst <;> simp [kgo] at hst
  | ior =>
    simp only [kex, ki2] at hst
    split at hst <;> simp [kgo] at hst
  | ishl =>
    simp only [kex, ki2] at hst
    split at hst <;> simp [kgo] at hst
  | ishr =>
    simp only [kex, ki2] at hst
    split at hst <;> simp [kgo] at hst
  | ladd =>
    simp only [kex, kl2] at hst
    split at hst <;> simp [kgo] at hst
  | lsub =>
    simp only [kex, kl2] at hst
    split at hst <;> simp [kgo] at hst
  | lmul =>
    simp only [kex, kl2] at hst
    split at hst <;> simp [kgo] at hst
  | land =>
    simp only [kex, kl2] at hst
    split at hst <;> simp [kgo] at hst
  | lor =>
    simp only [kex, kl2] at hst
    split at hst <;> simp [kgo] at hst
  | lxor =>
    simp only [kex, kl2] at hst
    split at hst <;> simp [kgo] at hst
  | iinc k v =>
    simp only [kex, kinc] at hst
    split at hst <;> (try split at hst) <;> simp [kgo, kbr] at hst
  | idiv =>
    simp only [kex, kdi] at hst
    split at hst <;> (try split at hst) <;> simp [kgo, kbr] at hst
  | irem =>
    simp only [kex, kdi] at hst
    split at hst <;> (try split at hst) <;> simp [kgo, kbr] at hst
  | ldiv =>
    simp only [kex, kdl] at hst
    split at hst <;> (try split at hst) <;> simp [kgo, kbr] at hst
  | lrem =>
    simp only [kex, kdl] at hst
    split at hst <;> (try split at hst) <;> simp [kgo, kbr] at hst
  | ineg =>
    simp only [kex, kii] at hst
    split at hst <;> (try split at hst) <;> simp [kgo, kbr] at hst
  | lneg =>
    simp only [kex, klll] at hst
    split at hst <;> (try split at hst) <;> simp [kgo, kbr] at hst
  | lshl =>
    simp only [kex, ksh] at hst
    split at hst <;> (try split at hst) <;> simp [kgo, kbr] at hst
  | lushr =>
    simp only [kex, ksh] at hst
    split at hst <;> (try split at hst) <;> simp [kgo, kbr] at hst
  | i2l =>
    simp only [kex, kitl] at hst
    split at hst <;> (try split at hst) <;> simp [kgo, kbr] at hst
  | l2i =>
    simp only [kex, klti] at hst
    split at hst <;> (try split at hst) <;> simp [kgo, kbr] at hst
  | i2b =>
    simp only [kex, kii] at hst
    split at hst <;> (try split at hst) <;> simp [kgo, kbr] at hst
  | i2c =>
    simp only [kex, kii] at hst
    split at hst <;> (try split at hst) <;> simp [kgo, kbr] at hst
  | lcmp =>
    simp only [kex, klc] at hst
    split at hst <;> (try split at hst) <;> simp [kgo, kbr] at hst
  | dup =>
    simp only [kex, kdup] at hst
    split at hst <;> (try split at hst) <;> simp [kgo, kbr] at hst
  | pop =>
    simp only [kex, kpop] at hst
    split at hst <;> (try split at hst) <;> simp [kgo, kbr] at hst
  | dup2 =>
    simp only [kex, kdup2] at hst
    split at hst <;> (try split at hst) <;> simp [kgo, kbr] at hst
  | ifCond q o =>
    simp only [kex, kb1] at hst
    split at hst <;> (try split at hst) <;> simp [kgo, kbr] at hst
  | if_icmp q o =>
    simp only [kex, kb2] at hst
    split at hst <;> (try split at hst) <;> simp [kgo, kbr] at hst
  | getfield k =>
    simp only [kex, kgf] at hst
    split at hst <;> (try split at hst) <;> simp [kgo, kbr] at hst
  | putfield k =>
    simp only [kex, kpf] at hst
    split at hst <;> (try split at hst) <;> simp [kgo, kbr] at hst
  | arraylength =>
    simp only [kex, kal_] at hst
    split at hst <;> (try split at hst) <;> simp [kgo, kbr] at hst
  | iaload =>
    simp only [kex, kia] at hst
    split at hst <;> (try split at hst) <;> simp [kgo, kbr] at hst
  | baload =>
    simp only [kex, kba] at hst
    split at hst <;> (try split at hst) <;> simp [kgo, kbr] at hst
  | laload =>
    simp only [kex, kla] at hst
    split at hst <;> (try split at hst) <;> simp [kgo, kbr] at hst
  | aaload =>
    simp only [kex, kaa] at hst
    split at hst <;> (try split at hst) <;> simp [kgo, kbr] at hst
  | iastore =>
    simp only [kex, kiS] at hst
    split at hst <;> (try split at hst) <;> simp [kgo, kbr] at hst
  | bastore =>
    simp only [kex, kbS] at hst
    split at hst <;> (try split at hst) <;> simp [kgo, kbr] at hst
  | lastore =>
    simp only [kex, klS] at hst
    split at hst <;> (try split at hst) <;> simp [kgo, kbr] at hst
  | aastore =>
    simp only [kex, kaS] at hst
    split at hst <;> (try split at hst) <;> simp [kgo, kbr] at hst
  | newarray ty =>
    simp only [kex, kna] at hst
    split at hst <;> (try split at hst) <;> simp [kgo, kbr] at hst
  | anewarray k =>
    simp only [kex, knq] at hst
    split at hst <;> (try split at hst) <;> simp [kgo, kbr] at hst
  | tableswitch dd lo hi offs =>
    simp only [kex, kts] at hst
    split at hst
    · unfold ksw at hst
      split at hst <;> (try split at hst) <;> simp [kgo] at hst
    · cases hst
  | lookupswitch dd ps =>
    simp only [kex, klk] at hst
    split at hst
    · unfold ksw at hst
      split at hst <;> (try split at hst) <;> simp [kgo] at hst
    · cases hst
  | invokevirtual k =>
    simp only [kex, kiv] at hst
    split at hst <;> (try split at hst) <;> (try split at hst) <;> simp [krr, kgo] at hst
  | invokespecial k =>
    simp only [kex, kip] at hst
    split at hst <;> (try split at hst) <;> (try split at hst) <;> (try split at hst) <;> (try split at hst) <;> simp [krr, kgo] at hst
  | invokestatic k =>
    simp only [kex, kit] at hst
    split at hst
    · unfold kcp at hst
      split at hst <;> (try split at hst) <;> simp at hst
    · split at hst <;> simp [krr] at hst
  | _ => cases hst
