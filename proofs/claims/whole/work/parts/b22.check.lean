/-! OWN: what is checked of a table by the tables' words -/
/-- AbstractStringBuilder's private methods, on a StringBuilder -/
def kSel : List Cond := [.selects "java/lang/StringBuilder" yJ5_ensureCapacityInternal_d00df yJ5_ensureCapacityInternal_d00df, .selects "java/lang/StringBuilder" yJ5_newCapacity_0f7a4 yJ5_newCapacity_0f7a4, .selects "java/lang/StringBuilder" yJ5_putStringAt_47b60 yJ5_putStringAt_47b60, .selects "java/lang/StringBuilder" yJ5_inflateIfNeededFor_a7421 yJ5_inflateIfNeededFor_a7421]
def kTb : List Cond := lw_tbl ++ kSel
def kWs : List Cond := kTb.filter goodWord
theorem kWs_in {w : Cond} (h : w ∈ kWs) : w ∈ kTb := (List.mem_filter.mp h).1
/-- String constants: class, place, text, cell -/
def kSr : List (String × Nat × String × Nat) := [("KnockFinder$Steps", 42, "abmkrwxy", 3), ("KnockFinder$Verdict", 91, "outer", 4), ("KnockFinder$Verdict", 93, "inner", 5), ("KnockFinder$Verdict", 95, "ball", 6), ("KnockFinder$Verdict", 97, "cage", 7), ("KnockFinder$Verdict", 99, "shaft", 8)]
def kcn (x : Int) : String := match vwCl[x.toNat]? with
  | some r => r.1
  | none => "java/lang/String"
def kln : Instr → Nat
  | .bipush _ => 2
  | .sipush _ => 3
  | .ldc _ => 2
  | .ldc2_w _ => 3
  | .iload _ => 2
  | .lload _ => 2
  | .aload _ => 2
  | .istore _ => 2
  | .lstore _ => 2
  | .astore _ => 2
  | .iinc _ _ => 3
  | .goto _ => 3
  | .ifCond _ _ => 3
  | .if_icmp _ _ => 3
  | .getfield _ => 3
  | .putfield _ => 3
  | .getstatic _ => 3
  | .new _ => 3
  | .anewarray _ => 3
  | .newarray _ => 2
  | .invokevirtual _ => 3
  | .invokespecial _ => 3
  | .invokestatic _ => 3
  | _ => 1
def kfl (own : String) (k a b : Nat) : List Cond := match vwCl[a]? with
  | some (_, T, _) => [.fieldLink own k (T b).1 (T b).2.1 (T b).2.2.1]
  | none => if b = 0 then [.fieldLink own k "java/lang/String" "value" "[B"] else [.fieldLink own k "java/lang/String" "coder" "B"]
def kwd (own : String) (q : kI) : List Cond := match q with
  | ((i, _), a, b, x) => match i with
    | .getfield k => kfl own k a b
    | .putfield k => kfl own k a b
    | .ldc k => if b = 1 then [] else [.constant own k (Int32.ofInt x)]
    | .ldc2_w k => [.constantLong own k (Int64.ofInt x)]
    | .new k => match vwCl[a]? with
      | some (C, _, N) => [.classLink own k C, .instantiable C N, .initialized C]
      | none => []
    | .newarray t => [.arrayClass (newarray.typeOf t)]
    | .anewarray k => [.classLink own k "KnockFinder$State"]
    | .getstatic k => match kZl[a - 1]? with
      | some r => [.fieldLink own k r.1 r.2.1 r.2.2.1]
      | none => []
    | .invokevirtual k => match kmi[a]? with
      | some J => [.code J.1 J.2.1 J.2.2.1 J.2.2.2.1, .initialized J.1.cls, .methodLink own k J.1, .instanceMethod J.1, .selects (kcn x) J.1 J.1]
      | none => []
    | .invokespecial k => if x = -1 then [.methodLink own k objectInit, .instanceMethod objectInit, .code objectInit ⟨#[0xb1]⟩ 1 none] else match kmi[a]? with
      | some J => [.code J.1 J.2.1 J.2.2.1 J.2.2.2.1, .initialized J.1.cls, .instanceMethod J.1] ++ (if x = 1 then [] else if x = 2 then [.methodLink own k J.1, .sameMethod J.1.cls J.1.cls J.1.name J.1.desc, .superclass own J.1.cls] else [.methodLink own k J.1])
      | none => []
    | .invokestatic k => if x = -1 then [.methodLink own k arraycopyName, .native arraycopyName, .static arraycopyName, .initialized "java/lang/System"] else match kmi[a]? with
      | some J => [.code J.1 J.2.1 J.2.2.1 J.2.2.2.1, .initialized J.1.cls, .static J.1] ++ (if x = 1 then [] else [.methodLink own k J.1])
      | none => []
    | _ => []
def kpl : List Cond → List Nat → Bool
  | [], _ => true
  | w :: r, i :: j => decide (kTb[i]? = some w) && (goodWord w && kpl r j)
  | _ :: _, [] => false
theorem kpl_in : ∀ (ws : List Cond) (ps : List Nat), kpl ws ps = true → ∀ w ∈ ws, w ∈ kWs
  | [], _, _, w, h => by simp at h
  | w :: r, [], h, _, _ => by simp [kpl] at h
  | w :: r, i :: j, h, v, hv => by
    simp only [kpl, Bool.and_eq_true, decide_eq_true_eq] at h
    rcases List.mem_cons.mp hv with e | e
    · rw [e]
      exact List.mem_filter.mpr ⟨List.mem_of_getElem? h.1, h.2.1⟩
    · exact kpl_in r j h.2.2 v e
def kfo (own : String) (a b : Nat) : Bool := match vwCl[a]? with
  | some (_, _, N) => decide (b < N)
  | none => decide (a = 14)
/-- a callee: what it needs fits -/
def kca (I : kMI) (a b : Nat) : Bool := match kmi[a]? with
  | some J => decide (J.2.2.2.2.2.1 + 1 ≤ I.2.2.2.2.2.1) && (decide (8 + (J.2.2.1 + 11) + J.2.2.2.2.2.2 ≤ I.2.2.2.2.2.2) && (decide (J.1.cls ≠ "java/lang/invoke/MethodHandle" ∧ J.1.cls ≠ "java/lang/invoke/VarHandle") && decide ((parseMethodDescriptor J.1.desc).map (fun d => d.parameters.length) = some b)))
  | none => false
def kct (I : kMI) (q : Nat × kI) : Bool := match q.2 with
  | ((i, n), a, b, x) => match i with
    | .goto o => n == 3 && decide ((q.1 : Int) + o = (a : Int))
    | .ifCond _ o => n == 3 && decide ((q.1 : Int) + o = (a : Int))
    | .if_icmp _ o => n == 3 && decide ((q.1 : Int) + o = (a : Int))
    | .tableswitch _ _ _ _ => true
    | .lookupswitch _ ps => (ps.toList.zip (ps.toList.drop 1)).all (fun (a, next) => a.1 < next.1)
    | .getfield _ => n == 3 && kfo I.2.2.2.2.1 a b
    | .putfield _ => n == 3 && (kfo I.2.2.2.2.1 a b && (match vwCl[a]? with
      | some (_, T, _) => decide ((T b).2.2.2 = false) || (decide (I.1.name = "<init>") && decide ((T b).1 = I.2.2.2.2.1))
      | none => false))
    | .ldc k => n == 2 && (decide (¬ b = 1) || kSr.any (fun r => decide (r.1 = I.2.2.2.2.1 ∧ r.2.1 = k ∧ r.2.2.2 = a)))
    | .ifnonnull o => n == 3 && decide ((q.1 : Int) + o = (a : Int))
    | .new _ => n == 3 && (match vwCl[a]? with
      | some (_, _, N) => decide ((kdef a).length = N) && (List.range N).all (fun j => decide (defaultValue (kty a j) = vp_V (kdef a) j))
      | none => false)
    | .newarray t => n == 2 && (match newarray.typeOf t with
      | .int => true
      | .byte => true
      | .boolean => true
      | .long => true
      | _ => false)
    | .aastore => n == 1 && decide (a = 8)
    | .getstatic _ => n == 3 && decide (1 ≤ a ∧ a ≤ 6)
    | .invokevirtual _ => n == 3 && kca I a b
    | .invokespecial k => n == 3 && (if x = -1 then decide (b = 0) && (decide (1 ≤ I.2.2.2.2.2.1) && decide (20 ≤ I.2.2.2.2.2.2)) else kca I a b && (match kmi[a]? with
      | some J => if x = 2 then decide (J.1.name ≠ "<init>") else decide (J.1.name = "<init>") && (decide (J.2.2.2.1 = none) && (if x = 1 then decide (Cond.methodLinkNest I.2.2.2.2.1 k J.1 "KnockFinder" ∈ kNs) else true))
      | none => false))
    | .invokestatic k => n == 3 && (if x = -1 then decide (1 ≤ I.2.2.2.2.2.1) && decide (8 + (nativeFrameWords "java/lang/System" "arraycopy" 5 + 11) ≤ I.2.2.2.2.2.2) else kca I a b && (match kmi[a]? with
      | some J => (if x = 1 then decide (Cond.methodLinkNest I.2.2.2.2.1 k J.1 "KnockFinder" ∈ kNs) else true)
      | none => false))
    | .ireturn => n == 1 && (decide (a = 0 ∧ I.2.2.2.1 = some .int) || (decide (a = 1 ∧ I.2.2.2.1 = some .boolean) || (decide (a = 2 ∧ I.2.2.2.1 = some .byte) || decide (a = 3 ∧ I.2.2.2.1 = some .char))))
    | .lreturn => n == 1 && decide (I.2.2.2.1 = some .long)
    | .areturn => n == 1 && (match I.2.2.2.1 with
      | some (.object _) => true
      | some (.array _) => true
      | _ => false)
    | .return_ => n == 1 && decide (I.2.2.2.1 = none)
    | i => n == kln i
def kck (I : kMI) (q : Nat × kI) (ws : List Nat) : Bool := decide (decode I.2.1 q.1 = .ok q.2.1) && (kpl (kwd I.2.2.2.2.1 q.2) ws && kct I q)
def kcks (I : kMI) : kT → List (List Nat) → Bool
  | [], _ => true
  | q :: r, w :: j => kck I q w && kcks I r j
  | _ :: _, [] => false
/-- an instruction as the tables' words say -/
def kOkI (I : kMI) (q : Nat × kI) : Prop := decode I.2.1 q.1 = .ok q.2.1 ∧ (∀ w ∈ kwd I.2.2.2.2.1 q.2, w ∈ kWs) ∧ kct I q = true
theorem kcks_ok (I : kMI) : ∀ (t : kT) (ws : List (List Nat)), kcks I t ws = true → ∀ q ∈ t, kOkI I q
  | [], _, _, q, h => by simp at h
  | q :: r, [], h, _, _ => by simp [kcks] at h
  | q :: r, w :: j, h, p, hp => by
    simp only [kcks, kck, Bool.and_eq_true, decide_eq_true_eq] at h
    rcases List.mem_cons.mp hp with e | e
    · rw [e]
      exact ⟨h.1.1, kpl_in _ _ h.1.2.1, h.1.2.2⟩
    · exact kcks_ok I r j h.2 p e
