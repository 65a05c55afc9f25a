/-! OWN: a machine of methods over a heap of numbered cells. Refs are places of cells (0..31: cells that were there before, read alone). -/
abbrev kE : Type := (FieldType × vp_A) ⊕ (Nat × List Value)
abbrev kH : Type := (Nat → Option kE) × Nat × Nat
abbrev kR : Type := Option Value × kH
abbrev kI : Type := (Instr × Nat) × Nat × Nat × Int
abbrev kT : Type := List (Nat × kI)
abbrev kL : Type := List (Option Value)
abbrev kC : Type := Nat × kL × List Value × kH
def kget : kT → Nat → Option kI
  | [], _ => none
  | q :: r, pc => cond (Nat.beq q.1 pc) (some q.2) (kget r pc)
/-- an index within a row -/
abbrev kin (i : Int32) (n : Nat) : Prop := 0 ≤ i.toInt ∧ i.toInt < n
def kup (h : kH) (q : Nat) (e : kE) : kH := (fun j => if j = q then some e else h.1 j, h.2)
def kfld (h : kH) (ci q k : Nat) : Option Value := match h.1 q with
  | some (.inr (c, fs)) => if c = ci then fs[k]? else none
  | _ => none
def kFit : FieldType → Value → Bool
  | .int, .int _ => true
  | .long, .long _ => true
  | .boolean, .int x => x == 0 || x == 1
  | .byte, .int x => x.toInt8.toInt32 == x
  | .object _, .ref _ => true
  | .object _, .null => true
  | .array _, .ref _ => true
  | .array _, .null => true
  | _, _ => false
def kput (h : kH) (ci q k : Nat) (ty : FieldType) (v : Value) : Option kH := match h.1 q with
  | some (.inr (c, fs)) => if c = ci ∧ k < fs.length ∧ 32 ≤ q ∧ kFit ty v = true then some (kup h q (.inr (c, fs.set k v))) else none
  | _ => none
def kis (h : kH) (ci q : Nat) : Bool := match h.1 q with
  | some (.inr (c, _)) => c == ci
  | _ => false
def klen (h : kH) (q : Nat) : Option Int32 := match h.1 q with
  | some (.inl (_, n, _)) => some (Int32.ofNat n)
  | _ => none
def kil (h : kH) (q : Nat) (i : Int32) : Option Int32 := match h.1 q with
  | some (.inl (.int, n, .inl f)) => if kin i n then some (f i.toNatClampNeg) else none
  | _ => none
def kbl (h : kH) (q : Nat) (i : Int32) : Option Int32 := match h.1 q with
  | some (.inl (.byte, n, .inl f)) => if kin i n then some (f i.toNatClampNeg) else none
  | some (.inl (.boolean, n, .inl f)) => if kin i n then some (f i.toNatClampNeg) else none
  | _ => none
def kll (h : kH) (q : Nat) (i : Int32) : Option Int64 := match h.1 q with
  | some (.inl (.long, n, .inr (.inl f))) => if kin i n then some (f i.toNatClampNeg) else none
  | _ => none
def kal (h : kH) (q : Nat) (i : Int32) : Option Value := match h.1 q with
  | some (.inl (.object _, n, .inr (.inr (.inr (.inr f))))) => if kin i n then some (va_rf (f i.toNatClampNeg)) else none
  | _ => none
def kis_ (h : kH) (q : Nat) (i : Int32) (x : Int32) : Option kH := match h.1 q with
  | some (.inl (.int, n, .inl f)) => if kin i n ∧ 32 ≤ q then some (kup h q (.inl (.int, n, .inl (upd f i.toNatClampNeg x)))) else none
  | _ => none
def kbs (h : kH) (q : Nat) (i : Int32) (x : Int32) : Option kH := match h.1 q with
  | some (.inl (.byte, n, .inl f)) => if kin i n ∧ 32 ≤ q then some (kup h q (.inl (.byte, n, .inl (upd f i.toNatClampNeg (vp_nar .byte x))))) else none
  | some (.inl (.boolean, n, .inl f)) => if kin i n ∧ 32 ≤ q then some (kup h q (.inl (.boolean, n, .inl (upd f i.toNatClampNeg (vp_nar .boolean x))))) else none
  | _ => none
def kls (h : kH) (q : Nat) (i : Int32) (x : Int64) : Option kH := match h.1 q with
  | some (.inl (.long, n, .inr (.inl f))) => if kin i n ∧ 32 ≤ q then some (kup h q (.inl (.long, n, .inr (.inl (vp_updL f i.toNatClampNeg x))))) else none
  | _ => none
/-- a reference to an object of the class ci into a row of such -/
def kas (h : kH) (ci q : Nat) (i : Int32) (v : Nat) : Option kH := match h.1 q with
  | some (.inl (.object C, n, .inr (.inr (.inr (.inr f))))) => if kin i n ∧ 32 ≤ q ∧ kis h ci v = true ∧ C = "KnockFinder$State" then some (kup h q (.inl (.object C, n, .inr (.inr (.inr (.inr (va_up f i.toNatClampNeg (some v)))))))) else none
  | _ => none
/-- a new cell -/
def knew (h : kH) (e : kE) (n : Nat) : kH := (fun j => if j = h.2.1 then some e else h.1 j, h.2.1 + 1, h.2.2 + n)
def karr (ty : FieldType) (n : Nat) : Option kE := match ty with
  | .int => some (.inl (.int, n, .inl (fun _ => 0)))
  | .byte => some (.inl (.byte, n, .inl (fun _ => 0)))
  | .boolean => some (.inl (.boolean, n, .inl (fun _ => 0)))
  | .long => some (.inl (.long, n, .inr (.inl (fun _ => 0))))
  | _ => none
def kcat (S : List Value) : Nat := (S.map fun v => v.category).sum
/-- a row of ints or longs copied (System.arraycopy) -/
def kcopy (h : kH) (a : Nat) (i : Int32) (b : Nat) (j n : Int32) : Option kH := match h.1 a, h.1 b with
  | some (.inl (.int, na, .inl f)), some (.inl (.int, nb, .inl g)) =>
    if 0 ≤ i.toInt ∧ 0 ≤ j.toInt ∧ 0 ≤ n.toInt ∧ i.toInt + n.toInt ≤ na ∧ j.toInt + n.toInt ≤ nb ∧ 32 ≤ a ∧ 32 ≤ b then
      some (kup h b (.inl (.int, nb, .inl (va_cpy f g i.toNatClampNeg j.toNatClampNeg n.toNatClampNeg)))) else none
  | some (.inl (.byte, na, .inl f)), some (.inl (.byte, nb, .inl g)) =>
    if 0 ≤ i.toInt ∧ 0 ≤ j.toInt ∧ 0 ≤ n.toInt ∧ i.toInt + n.toInt ≤ na ∧ j.toInt + n.toInt ≤ nb ∧ 32 ≤ b ∧ (∀ z : Nat, z < n.toNatClampNeg → (f (i.toNatClampNeg + z)).toInt8.toInt32 = f (i.toNatClampNeg + z)) then
      some (kup h b (.inl (.byte, nb, .inl (va_cpy f g i.toNatClampNeg j.toNatClampNeg n.toNatClampNeg)))) else none
  | _, _ => none
/-- a long whose second half is overwritten is gone -/
def kkl (o : Option Value) : Option Value := match o with
  | some v => if v.category = 2 then none else some v
  | none => none
def kmod : kL → Nat → kL
  | [], _ => []
  | o :: r, 0 => kkl o :: r
  | o :: r, j + 1 => o :: kmod r j
def kkill (L : kL) (k : Nat) : kL := match k with
  | 0 => L
  | j + 1 => kmod L j
theorem kkl_i (x : Int32) : kkl (some (.int x)) = some (.int x) := rfl
theorem kkl_l (x : Int64) : kkl (some (.long x)) = none := rfl
theorem kkl_r (x : Nat) : kkl (some (.ref x)) = some (.ref x) := rfl
theorem kkl_n : kkl (some .null) = some .null := rfl
theorem kkl_0 : kkl none = none := rfl
def kst1 (L : kL) (k : Nat) (v : Value) : kL := (kkill L k).set k (some v)
def kst2 (L : kL) (k : Nat) (v : Value) : kL := ((kkill L k).set k (some v)).set (k + 1) none
def kcmp (c : Jvm.ClassFile.Cond) (x y : Int32) : Bool := match c with
  | .eq => decide (x = y)
  | .ne => decide (¬ x = y)
  | .lt => decide (x < y)
  | .ge => decide (y ≤ x)
  | .gt => decide (y < x)
  | .le => decide (x ≤ y)
abbrev kO : Type := Option (kC ⊕ kR)
def kgo (pc : Nat) (L : kL) (S : List Value) (h : kH) : kO := some (.inl (pc, L, S, h))
def kld (L : kL) (k : Nat) (f : Value → kO) : kO := match L[k]? with
  | some (some v) => f v
  | _ => none
/-- loads: which kind of value is due -/
def kldi (pc : Nat) (L : kL) (S : List Value) (h : kH) (k : Nat) : kO := match L[k]? with
  | some (some (.int x)) => kgo pc L (.int x :: S) h
  | _ => none
def kldl (pc : Nat) (L : kL) (S : List Value) (h : kH) (k : Nat) : kO := match L[k]? with
  | some (some (.long x)) => kgo pc L (.long x :: S) h
  | _ => none
def klda (pc : Nat) (L : kL) (S : List Value) (h : kH) (k : Nat) : kO := match L[k]? with
  | some (some (.ref x)) => kgo pc L (.ref x :: S) h
  | some (some .null) => kgo pc L (.null :: S) h
  | _ => none
def ksti (pc : Nat) (L : kL) (S : List Value) (h : kH) (k : Nat) : kO := match S with
  | .int x :: S => if k < L.length then kgo pc (kst1 L k (.int x)) S h else none
  | _ => none
def kstl (pc : Nat) (L : kL) (S : List Value) (h : kH) (k : Nat) : kO := match S with
  | .long x :: S => if k + 1 < L.length then kgo pc (kst2 L k (.long x)) S h else none
  | _ => none
def ksta (pc : Nat) (L : kL) (S : List Value) (h : kH) (k : Nat) : kO := match S with
  | .ref x :: S => if k < L.length then kgo pc (kst1 L k (.ref x)) S h else none
  | .null :: S => if k < L.length then kgo pc (kst1 L k .null) S h else none
  | _ => none
def ki2 (pc : Nat) (L : kL) (S : List Value) (h : kH) (f : Int32 → Int32 → Int32) : kO := match S with
  | .int y :: .int x :: S => kgo pc L (.int (f x y) :: S) h
  | _ => none
def kl2 (pc : Nat) (L : kL) (S : List Value) (h : kH) (f : Int64 → Int64 → Int64) : kO := match S with
  | .long y :: .long x :: S => kgo pc L (.long (f x y) :: S) h
  | _ => none
def kbr (a b : Nat) (L : kL) (S : List Value) (h : kH) (c : Bool) : kO := some (.inl (if c = true then a else b, L, S, h))
def ksw (pc : Nat) (off : Option Int) (L : kL) (S : List Value) (h : kH) : kO := match off with
  | some o => if 0 ≤ (pc : Int) + o then kgo ((pc : Int) + o).toNat L S h else none
  | none => none
def krr (call : Option kR) (pc : Nat) (L : kL) (S : List Value) : kO := call.map fun r => .inl (pc, L, r.1.toList ++ S, r.2)
def kdi (pc : Nat) (L : kL) (S : List Value) (h : kH) (f : Int32 → Int32 → Int32) : kO := match S with
  | .int y :: .int x :: S => if y = 0 then none else kgo pc L (.int (f x y) :: S) h
  | _ => none
def kdl (pc : Nat) (L : kL) (S : List Value) (h : kH) (f : Int64 → Int64 → Int64) : kO := match S with
  | .long y :: .long x :: S => if y = 0 then none else kgo pc L (.long (f x y) :: S) h
  | _ => none
def kii (pc : Nat) (L : kL) (S : List Value) (h : kH) (f : Int32 → Int32) : kO := match S with
  | .int x :: S => kgo pc L (.int (f x) :: S) h
  | _ => none
def klll (pc : Nat) (L : kL) (S : List Value) (h : kH) (f : Int64 → Int64) : kO := match S with
  | .long x :: S => kgo pc L (.long (f x) :: S) h
  | _ => none
def kitl (pc : Nat) (L : kL) (S : List Value) (h : kH) : kO := match S with
  | .int x :: S => kgo pc L (.long x.toInt64 :: S) h
  | _ => none
def klti (pc : Nat) (L : kL) (S : List Value) (h : kH) : kO := match S with
  | .long x :: S => kgo pc L (.int x.toInt32 :: S) h
  | _ => none
def ksh (pc : Nat) (L : kL) (S : List Value) (h : kH) (f : Int64 → Int32 → Int64) : kO := match S with
  | .int y :: .long x :: S => kgo pc L (.long (f x y) :: S) h
  | _ => none
def klc (pc : Nat) (L : kL) (S : List Value) (h : kH) : kO := match S with
  | .long y :: .long x :: S => kgo pc L (.int (lg_cmp x y) :: S) h
  | _ => none
def kdup (pc : Nat) (L : kL) (S : List Value) (h : kH) : kO := match S with
  | v :: S => if v.category = 1 then kgo pc L (v :: v :: S) h else none
  | _ => none
def kpop (pc : Nat) (L : kL) (S : List Value) (h : kH) : kO := match S with
  | v :: S => if v.category = 1 then kgo pc L S h else none
  | _ => none
def kdx1 (pc : Nat) (L : kL) (S : List Value) (h : kH) : kO := match S with
  | v :: w :: S => if v.category = 1 ∧ w.category = 1 then kgo pc L (v :: w :: v :: S) h else none
  | _ => none
/-- ifnonnull -/
def knn (a b : Nat) (L : kL) (S : List Value) (h : kH) : kO := match S with
  | .ref _ :: S => kgo a L S h
  | .null :: S => kgo b L S h
  | _ => none
/-- statics: rows of the class (1, 2); String.COMPACT_STRINGS, Integer's digits, one of which nothing is known -/
def kgv : Nat → Value
  | 3 => .int 1
  | 4 => .ref 15
  | 5 => .ref 16
  | 6 => .float 0
  | a => .ref a
def kdup2 (pc : Nat) (L : kL) (S : List Value) (h : kH) : kO := match S with
  | v :: w :: S => if v.category = 1 ∧ w.category = 1 then kgo pc L (v :: w :: v :: w :: S) h else none
  | _ => none
def kinc (pc : Nat) (L : kL) (S : List Value) (h : kH) (k : Nat) (v : Int) : kO := match L[k]? with
  | some (some (.int y)) => kgo pc (kst1 L k (.int (y + Int32.ofInt v))) S h
  | _ => none
def kb1 (a b : Nat) (L : kL) (S : List Value) (h : kH) (c : Jvm.ClassFile.Cond) : kO := match S with
  | .int x :: S => kbr a b L S h (kcmp c x 0)
  | _ => none
def kb2 (a b : Nat) (L : kL) (S : List Value) (h : kH) (c : Jvm.ClassFile.Cond) : kO := match S with
  | .int y :: .int x :: S => kbr a b L S h (kcmp c x y)
  | _ => none
def kts (pc : Nat) (L : kL) (S : List Value) (h : kH) (d lo hi : Int) (offs : Array Int) : kO := match S with
  | .int x :: S => ksw pc (if x.toInt < lo ∨ hi < x.toInt then some d else offs[(x.toInt - lo).toNat]?) L S h
  | _ => none
def klk (pc : Nat) (L : kL) (S : List Value) (h : kH) (d : Int) (ps : Array (Int × Int)) : kO := match S with
  | .int x :: S => ksw pc (some (Op.lookupswitch.offset ps.toList d x.toInt)) L S h
  | _ => none
def kgf (pc : Nat) (L : kL) (S : List Value) (h : kH) (a b : Nat) : kO := match S with
  | .ref q :: S => (kfld h a q b).map fun v => .inl (pc, L, v :: S, h)
  | _ => none
def kpf (pc : Nat) (L : kL) (S : List Value) (h : kH) (a b : Nat) (ty : FieldType) : kO := match S with
  | v :: .ref q :: S => (kput h a q b ty v).map fun h => .inl (pc, L, S, h)
  | _ => none
def kal_ (pc : Nat) (L : kL) (S : List Value) (h : kH) : kO := match S with
  | .ref q :: S => (klen h q).map fun v => .inl (pc, L, .int v :: S, h)
  | _ => none
def kia (pc : Nat) (L : kL) (S : List Value) (h : kH) : kO := match S with
  | .int i :: .ref q :: S => (kil h q i).map fun v => .inl (pc, L, .int v :: S, h)
  | _ => none
def kba (pc : Nat) (L : kL) (S : List Value) (h : kH) : kO := match S with
  | .int i :: .ref q :: S => (kbl h q i).map fun v => .inl (pc, L, .int v :: S, h)
  | _ => none
def kla (pc : Nat) (L : kL) (S : List Value) (h : kH) : kO := match S with
  | .int i :: .ref q :: S => (kll h q i).map fun v => .inl (pc, L, .long v :: S, h)
  | _ => none
def kaa (pc : Nat) (L : kL) (S : List Value) (h : kH) : kO := match S with
  | .int i :: .ref q :: S => (kal h q i).map fun v => .inl (pc, L, v :: S, h)
  | _ => none
def kiS (pc : Nat) (L : kL) (S : List Value) (h : kH) : kO := match S with
  | .int v :: .int i :: .ref q :: S => (kis_ h q i v).map fun h => .inl (pc, L, S, h)
  | _ => none
def kbS (pc : Nat) (L : kL) (S : List Value) (h : kH) : kO := match S with
  | .int v :: .int i :: .ref q :: S => (kbs h q i v).map fun h => .inl (pc, L, S, h)
  | _ => none
def klS (pc : Nat) (L : kL) (S : List Value) (h : kH) : kO := match S with
  | .long v :: .int i :: .ref q :: S => (kls h q i v).map fun h => .inl (pc, L, S, h)
  | _ => none
def kaS (pc : Nat) (L : kL) (S : List Value) (h : kH) (a : Nat) : kO := match S with
  | .ref v :: .int i :: .ref q :: S => (kas h a q i v).map fun h => .inl (pc, L, S, h)
  | _ => none
def kna (pc : Nat) (L : kL) (S : List Value) (h : kH) (ty : FieldType) : kO := match S with
  | .int v :: S => if 0 ≤ v.toInt ∧ v.toInt ≤ 100000 then (karr ty v.toNatClampNeg).map (fun e => .inl (pc, L, .ref h.2.1 :: S, knew h e v.toNatClampNeg)) else none
  | _ => none
def knq (pc : Nat) (L : kL) (S : List Value) (h : kH) : kO := match S with
  | .int v :: S => if 0 ≤ v.toInt ∧ v.toInt ≤ 100000 then kgo pc L (.ref h.2.1 :: S) (knew h (.inl (.object "KnockFinder$State", v.toNatClampNeg, .inr (.inr (.inr (.inr fun j => if j < v.toNatClampNeg then none else some 0))))) v.toNatClampNeg) else none
  | _ => none
def kiv (call : Nat → List Value → kH → Option kR) (pc : Nat) (L : kL) (S : List Value) (h : kH) (a b : Nat) (x : Int) : kO := match S.drop b with
  | .ref q :: R => if kis h x.toNat q = true ∧ kcat R ≤ 8 then krr (call a (.ref q :: (S.take b).reverse) h) pc L R else none
  | _ => none
def kip (call : Nat → List Value → kH → Option kR) (pc : Nat) (L : kL) (S : List Value) (h : kH) (a b : Nat) (x : Int) : kO := match S.drop b with
  | .ref q :: R => if kcat R ≤ 8 then (if x = -1 then kgo pc L R h else if x = 2 then (if kis h 0 q = true then krr (call a (.ref q :: (S.take b).reverse) h) pc L R else none) else krr (call a (.ref q :: (S.take b).reverse) h) pc L R) else none
  | _ => none
def kcp (pc : Nat) (L : kL) (S : List Value) (h : kH) : kO := match S with
  | .int c :: .int j :: .ref q :: .int i :: .ref p :: R => if kcat R ≤ 8 then (kcopy h p i q j c).map fun h => .inl (pc, L, R, h) else none
  | _ => none
def kit (call : Nat → List Value → kH → Option kR) (pc : Nat) (L : kL) (S : List Value) (h : kH) (a b : Nat) (x : Int) : kO :=
  if x = -1 then kcp pc L S h else if b ≤ S.length ∧ kcat (S.drop b) ≤ 8 then krr (call a (S.take b).reverse h) pc L (S.drop b) else none
def kri (S : List Value) (h : kH) (a : Nat) : kO := match S with
  | [.int v] => if a = 0 ∨ (a = 1 ∧ (v = 0 ∨ v = 1)) ∨ (a = 2 ∧ v.toInt8.toInt32 = v) ∨ (a = 3 ∧ (v.toUInt32 % 65536).toInt32 = v) then some (.inr (some (.int v), h)) else none
  | _ => none
def krl (S : List Value) (h : kH) : kO := match S with
  | [.long v] => some (.inr (some (.long v), h))
  | _ => none
def kra (S : List Value) (h : kH) : kO := match S with
  | [.ref v] => some (.inr (some (.ref v), h))
  | _ => none
def krv (S : List Value) (h : kH) : kO := match S with
  | [] => some (.inr (none, h))
  | _ => none
/-- one instruction: its length, and what it links (a, b, x) -/
def kex (call : Nat → List Value → kH → Option kR) (kdef : Nat → List Value) (kty : Nat → Nat → FieldType) (pc n : Nat) (L : kL) (S : List Value) (h : kH) (a b : Nat) (x : Int) : Instr → kO
  | .iconst v => kgo (pc + n) L (.int (Int32.ofInt v) :: S) h
  | .bipush v => kgo (pc + n) L (.int (Int8.ofInt v).toInt32 :: S) h
  | .sipush v => kgo (pc + n) L (.int (Int16.ofInt v).toInt32 :: S) h
  | .lconst v => kgo (pc + n) L (.long (Int64.ofNat (v : Nat)) :: S) h
  | .ldc _ => kgo (pc + n) L ((if b = 1 then Value.ref a else .int (Int32.ofInt x)) :: S) h
  | .ldc2_w _ => kgo (pc + n) L (.long (Int64.ofInt x) :: S) h
  | .iload k => kldi (pc + n) L S h k
  | .iload_n k => kldi (pc + n) L S h k
  | .lload k => kldl (pc + n) L S h k
  | .lload_n k => kldl (pc + n) L S h k
  | .aload k => klda (pc + n) L S h k
  | .aload_n k => klda (pc + n) L S h k
  | .istore k => ksti (pc + n) L S h k
  | .istore_n k => ksti (pc + n) L S h k
  | .lstore k => kstl (pc + n) L S h k
  | .lstore_n k => kstl (pc + n) L S h k
  | .astore k => ksta (pc + n) L S h k
  | .astore_n k => ksta (pc + n) L S h k
  | .iinc k v => kinc (pc + n) L S h k v
  | .iadd => ki2 (pc + n) L S h (fun x y => x + y)
  | .isub => ki2 (pc + n) L S h (fun x y => x - y)
  | .imul => ki2 (pc + n) L S h (fun x y => x * y)
  | .iand => ki2 (pc + n) L S h (fun x y => x &&& y)
  | .ior => ki2 (pc + n) L S h (fun x y => x ||| y)
  | .ishl => ki2 (pc + n) L S h (fun x y => x <<< (y &&& 31))
  | .ishr => ki2 (pc + n) L S h (fun x y => x >>> (y &&& 31))
  | .iushr => ki2 (pc + n) L S h (fun x y => (x.toUInt32 >>> (y.toUInt32 &&& Int32.toUInt32 31)).toInt32)
  | .idiv => kdi (pc + n) L S h (fun x y => x / y)
  | .irem => kdi (pc + n) L S h (fun x y => x - x / y * y)
  | .ineg => kii (pc + n) L S h (fun x => -x)
  | .ladd => kl2 (pc + n) L S h (fun x y => x + y)
  | .lsub => kl2 (pc + n) L S h (fun x y => x - y)
  | .lmul => kl2 (pc + n) L S h (fun x y => x * y)
  | .land => kl2 (pc + n) L S h (fun x y => x &&& y)
  | .lor => kl2 (pc + n) L S h (fun x y => x ||| y)
  | .lxor => kl2 (pc + n) L S h (fun x y => x ^^^ y)
  | .ldiv => kdl (pc + n) L S h (fun x y => x / y)
  | .lrem => kdl (pc + n) L S h (fun x y => x - x / y * y)
  | .lneg => klll (pc + n) L S h (fun x => -x)
  | .lshl => ksh (pc + n) L S h (fun x y => x <<< (y.toInt64 &&& 63))
  | .lushr => ksh (pc + n) L S h (fun x y => (x.toUInt64 >>> (y.toInt64.toUInt64 &&& Int64.toUInt64 63)).toInt64)
  | .lcmp => klc (pc + n) L S h
  | .i2l => kitl (pc + n) L S h
  | .l2i => klti (pc + n) L S h
  | .i2b => kii (pc + n) L S h (fun x => x.toInt8.toInt32)
  | .i2c => kii (pc + n) L S h (fun x => (x.toUInt32 % 65536).toInt32)
  | .dup => kdup (pc + n) L S h
  | .pop => kpop (pc + n) L S h
  | .dup2 => kdup2 (pc + n) L S h
  | .dup_x1 => kdx1 (pc + n) L S h
  | .ifnonnull _ => knn a (pc + n) L S h
  | .goto _ => kgo a L S h
  | .ifCond c _ => kb1 a (pc + n) L S h c
  | .if_icmp c _ => kb2 a (pc + n) L S h c
  | .tableswitch d lo hi offs => kts pc L S h d lo hi offs
  | .lookupswitch d ps => klk pc L S h d ps
  | .getfield _ => kgf (pc + n) L S h a b
  | .putfield _ => kpf (pc + n) L S h a b (kty a b)
  | .arraylength => kal_ (pc + n) L S h
  | .iaload => kia (pc + n) L S h
  | .baload => kba (pc + n) L S h
  | .laload => kla (pc + n) L S h
  | .aaload => kaa (pc + n) L S h
  | .iastore => kiS (pc + n) L S h
  | .bastore => kbS (pc + n) L S h
  | .lastore => klS (pc + n) L S h
  | .aastore => kaS (pc + n) L S h a
  | .new _ => kgo (pc + n) L (.ref h.2.1 :: S) (knew h (.inr (a, kdef a)) (kdef a).length)
  | .newarray ty => kna (pc + n) L S h (newarray.typeOf ty)
  | .anewarray _ => knq (pc + n) L S h
  | .getstatic _ => kgo (pc + n) L (kgv a :: S) h
  | .invokevirtual _ => kiv call (pc + n) L S h a b x
  | .invokespecial _ => kip call (pc + n) L S h a b x
  | .invokestatic _ => kit call (pc + n) L S h a b x
  | .ireturn => kri S h a
  | .lreturn => krl S h
  | .areturn => kra S h
  | .return_ => krv S h
  | _ => none
/-- one step of a method's body -/
def kstep (call : Nat → List Value → kH → Option kR) (kdef : Nat → List Value) (kty : Nat → Nat → FieldType) (t : kT) (C : kC) : kO := match kget t C.1 with
  | some q => kex call kdef kty C.1 q.1.2 C.2.1 C.2.2.1 C.2.2.2 q.2.1 q.2.2.1 q.2.2.2 q.1.1
  | none => none
/-- a step, as often as it is said -/
def kiter (f : kC → kO) : Nat → kC → Option kR
  | 0, _ => none
  | n + 1, c => match f c with
    | some (.inl c') => kiter f n c'
    | some (.inr r) => some r
    | none => none
theorem kiter_up (f : kC → kO) : ∀ (n : Nat) (c : kC) (r : kR), kiter f n c = some r → kiter f (n + 1) c = some r
  | 0, c, r, h => by simp [kiter] at h
  | n + 1, c, r, h => by
    rw [kiter] at h ⊢
    cases hf : f c with
    | none => rw [hf] at h; simp at h
    | some z =>
      rw [hf] at h
      cases z with
      | inl c' => exact kiter_up f n c' r h
      | inr r' => exact h
theorem kiter_le (f : kC → kO) {n m : Nat} (hm : n ≤ m) {c : kC} {r : kR} (h : kiter f n c = some r) : kiter f m c = some r := by
  induction hm with
  | refl => exact h
  | step _ ih => exact kiter_up f _ _ _ ih
theorem kiter_one (f : kC → kO) {n m : Nat} {c : kC} {r q : kR} (h : kiter f n c = some r) (g : kiter f m c = some q) : r = q := by
  have h1 := kiter_le f (Nat.le_max_left n m) h
  have h2 := kiter_le f (Nat.le_max_right n m) g
  exact Option.some.inj (h1.symm.trans h2)
/-- where the steps come to an end, if they do -/
noncomputable def klim (f : kC → kO) (c : kC) : Option kR := @dite _ (∃ r : kR, ∃ n : Nat, kiter f n c = some r) (Classical.propDecidable _) (fun h => some (Classical.choose h)) (fun _ => none)
theorem klim_of (f : kC → kO) {n : Nat} {c : kC} {r : kR} (h : kiter f n c = some r) : klim f c = some r := by
  have hx : ∃ r : kR, ∃ n : Nat, kiter f n c = some r := ⟨r, n, h⟩
  rw [klim, dif_pos hx]
  obtain ⟨m, hm⟩ := Classical.choose_spec hx
  exact congrArg some (kiter_one f hm h)
theorem klim_to (f : kC → kO) {c : kC} {r : kR} (h : klim f c = some r) : ∃ n : Nat, kiter f n c = some r := by
  rw [klim] at h
  split at h
  · rename_i hx
    obtain ⟨m, hm⟩ := Classical.choose_spec hx
    exact ⟨m, hm.trans h⟩
  · cases h
theorem klim_none (f : kC → kO) {c : kC} (h : ¬ ∃ r : kR, ∃ n : Nat, kiter f n c = some r) : klim f c = none := by rw [klim, dif_neg h]
theorem klim_eq (f : kC → kO) (c : kC) : klim f c = match f c with
    | some (.inl c') => klim f c'
    | some (.inr r) => some r
    | none => none := by
  cases hf : f c with
  | none =>
    refine klim_none f ?_
    rintro ⟨r, n, h⟩
    cases n with
    | zero => simp [kiter] at h
    | succ n => rw [kiter, hf] at h; simp at h
  | some z =>
    cases z with
    | inr r => exact klim_of f (n := 1) (by rw [kiter, hf])
    | inl c' =>
      show klim f c = klim f c'
      by_cases hx : ∃ r : kR, ∃ n : Nat, kiter f n c' = some r
      · obtain ⟨r, n, h⟩ := hx
        rw [klim_of f h]
        exact klim_of f (n := n + 1) (by rw [kiter, hf]; exact h)
      · rw [klim_none f hx]
        refine klim_none f ?_
        rintro ⟨r, n, h⟩
        cases n with
        | zero => simp [kiter] at h
        | succ n =>
          rw [kiter, hf] at h
          exact hx ⟨r, n, h⟩
def kent : Nat → List Value → kL
  | n, [] => List.replicate n none
  | n, v :: vs => if v.category = 2 then some v :: none :: kent (n - 2) vs else some v :: kent (n - 1) vs
