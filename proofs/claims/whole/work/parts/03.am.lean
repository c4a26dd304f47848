/-! ===== AM: an own small machine for the bytecode of class, law and reference: what its runs answer, the JVM answers (part 04) ===== -/
/-- shapes (kind, length) by address; slots used; ints, longs, references by address and place -/
abbrev aM : Type := List (Nat × Nat) × Nat × (Nat → Nat → Int32) × (Nat → Nat → Int64) × (Nat → Nat → Option Nat)
abbrev aV : Type := List (Option Value)
abbrev aI : Type := Instr × Nat × Nat × Nat × Nat
abbrev aO : Type := Nat × aV × List Value × aM
/-- addresses below are of cells that were there before: nobody writes them -/
def aK : Nat := 32
def aU {α : Type} (f : Nat → Nat → α) (a k : Nat) (v : α) : Nat → Nat → α := fun b j => if b = a ∧ j = k then v else f b j
def aRow {α : Type} (f : Nat → Nat → α) (a : Nat) (r : Nat → α) : Nat → Nat → α := fun b j => if b = a then r j else f b j
/-- kinds: 0 int, 1 long, 2 reference, 3 boolean -/
def aKd (sh : Nat × Nat) (k : Nat) : Nat := if sh.1 < 100 then aFk sh.1 k else if sh.1 = 101 then 1 else if sh.1 < 104 then 0 else 2
def aRf (r : Option Nat) : Value := match r with
  | none => .null
  | some a => .ref a
def aRd (h : aM) (kind a k : Nat) : Value := match kind with
  | 1 => .long (h.2.2.2.1 a k)
  | 2 => aRf (h.2.2.2.2 a k)
  | _ => .int (h.2.2.1 a k)
def aWi (h : aM) (a k : Nat) (x : Int32) : aM := (h.1, h.2.1, aU h.2.2.1 a k x, h.2.2.2.1, h.2.2.2.2)
def aWl (h : aM) (a k : Nat) (x : Int64) : aM := (h.1, h.2.1, h.2.2.1, aU h.2.2.2.1 a k x, h.2.2.2.2)
def aWr (h : aM) (a k : Nat) (x : Option Nat) : aM := (h.1, h.2.1, h.2.2.1, h.2.2.2.1, aU h.2.2.2.2 a k x)
def aNew (h : aM) (sh : Nat × Nat) : aM := (h.1 ++ [sh], h.2.1 + sh.2, aRow h.2.2.1 h.1.length (fun _ => 0), aRow h.2.2.2.1 h.1.length (fun _ => 0), aRow h.2.2.2.2 h.1.length (fun _ => none))
/-- int[n][k]: the outer array, then n rows -/
def aMul (h : aM) (t1 t2 N M : Nat) : aM :=
  (h.1 ++ (t1, N) :: List.replicate N (t2, M), h.2.1 + N + N * M, (fun b j => if h.1.length ≤ b then 0 else h.2.2.1 b j), (fun b j => if h.1.length ≤ b then 0 else h.2.2.2.1 b j),
    (fun b j => if h.1.length ≤ b then (if b = h.1.length ∧ j < N then some (h.1.length + 1 + j) else none) else h.2.2.2.2 b j))
def aIn (i : Int32) (n : Nat) : Prop := ¬ (i < 0 ∨ n ≤ i.toNatClampNeg)
theorem aIn_iff (i : Int32) (n : Nat) : aIn i n ↔ ¬ (i < 0 ∨ n ≤ i.toNatClampNeg) := Iff.rfl
/-- a value of one slot is stored: what stood there, and a long that reached into it, is gone -/
def aKill (lv : aV) (i : Nat) : aV := match i with
  | 0 => lv
  | j + 1 => match lv[j]? with
    | some (some (.long _)) => lv.set j none
    | some (some (.double _)) => lv.set j none
    | _ => lv
def aSt1 (lv : aV) (i : Nat) (v : Value) : aV := (aKill lv i).set i (some v)
def aSt2 (lv : aV) (i : Nat) (v : Value) : aV := ((aKill lv i).set i (some v)).set (i + 1) none
def aTg (pc : Nat) (off : Int) : Option Nat := if ((((pc : Int) + off).toNat : Nat) : Int) = (pc : Int) + off then some ((pc : Int) + off).toNat else none
def aJ (pc : Nat) (off : Int) (n : Nat) (c : Prop) [Decidable c] (lv : aV) (st : List Value) (h : aM) : Option aO :=
  match aTg pc off with
  | some t => some (if c then t else pc + n, lv, st, h)
  | none => none
def aC2 (cnd : Jvm.ClassFile.Cond) (x y : Int32) : Bool := match cnd with
  | .eq => decide (x = y)
  | .ne => !decide (x = y)
  | .lt => decide (x < y)
  | .ge => decide (y ≤ x)
  | .gt => decide (y < x)
  | .le => decide (x ≤ y)
def aArr (h : aM) (a : Nat) (i : Int32) (t1 t2 : Nat) : Bool := match h.1[a]? with
  | some sh => (decide (sh.1 = t1) || decide (sh.1 = t2)) && !(decide (i < 0) || decide (sh.2 ≤ i.toNatClampNeg))
  | none => false
def aIop (f : Int32 → Int32 → Option Int32) (q : Nat) (lv : aV) (st : List Value) (h : aM) : Option aO := match st with
  | .int y :: .int x :: t => match f x y with
    | some z => some (q, lv, .int z :: t, h)
    | none => none
  | _ => none
def aLop (f : Int64 → Int64 → Option Int64) (q : Nat) (lv : aV) (st : List Value) (h : aM) : Option aO := match st with
  | .long y :: .long x :: t => match f x y with
    | some z => some (q, lv, .long z :: t, h)
    | none => none
  | _ => none
def aLsh (f : Int64 → Int32 → Int64) (q : Nat) (lv : aV) (st : List Value) (h : aM) : Option aO := match st with
  | .int y :: .long x :: t => some (q, lv, .long (f x y) :: t, h)
  | _ => none
def aIun (f : Int32 → Value) (q : Nat) (lv : aV) (st : List Value) (h : aM) : Option aO := match st with
  | .int x :: t => some (q, lv, f x :: t, h)
  | _ => none
def aLdI (i q : Nat) (lv : aV) (st : List Value) (h : aM) : Option aO := match lv[i]? with
  | some (some (.int x)) => some (q, lv, .int x :: st, h)
  | _ => none
def aLdL (i q : Nat) (lv : aV) (st : List Value) (h : aM) : Option aO := match lv[i]? with
  | some (some (.long x)) => some (q, lv, .long x :: st, h)
  | _ => none
def aLdA (i q : Nat) (lv : aV) (st : List Value) (h : aM) : Option aO := match lv[i]? with
  | some (some (.ref x)) => some (q, lv, .ref x :: st, h)
  | some (some .null) => some (q, lv, .null :: st, h)
  | _ => none
def aSvI (i q : Nat) (lv : aV) (st : List Value) (h : aM) : Option aO := match st with
  | .int x :: t => if i < lv.length then some (q, aSt1 lv i (.int x), t, h) else none
  | _ => none
def aSvL (i q : Nat) (lv : aV) (st : List Value) (h : aM) : Option aO := match st with
  | .long x :: t => if i + 1 < lv.length then some (q, aSt2 lv i (.long x), t, h) else none
  | _ => none
def aSvA (i q : Nat) (lv : aV) (st : List Value) (h : aM) : Option aO := match st with
  | .ref x :: t => if i < lv.length then some (q, aSt1 lv i (.ref x), t, h) else none
  | _ => none
def aGet (c k kind q : Nat) (lv : aV) (st : List Value) (h : aM) : Option aO := match st with
  | .ref a :: t => if h.1[a]? = some (c, aNf c) ∧ k < aNf c then some (q, lv, aRd h kind a k :: t, h) else none
  | _ => none
def aPut (c k kind q : Nat) (lv : aV) (st : List Value) (h : aM) : Option aO := match st with
  | v :: .ref a :: t => if h.1[a]? = some (c, aNf c) ∧ k < aNf c ∧ aK ≤ a then
      (match kind, v with
        | 0, .int x => some (q, lv, t, aWi h a k x)
        | 1, .long x => some (q, lv, t, aWl h a k x)
        | 2, .ref x => some (q, lv, t, aWr h a k (some x))
        | 2, .null => some (q, lv, t, aWr h a k none)
        | 3, .int x => if x = 0 ∨ x = 1 then some (q, lv, t, aWi h a k x) else none
        | _, _ => none) else none
  | _ => none
def aIal (t1 t2 q : Nat) (lv : aV) (st : List Value) (h : aM) : Option aO := match st with
  | .int i :: .ref a :: t => if aArr h a i t1 t2 = true then some (q, lv, .int (h.2.2.1 a i.toNatClampNeg) :: t, h) else none
  | _ => none
def aLal (q : Nat) (lv : aV) (st : List Value) (h : aM) : Option aO := match st with
  | .int i :: .ref a :: t => if aArr h a i 101 101 = true ∧ aK ≤ a then some (q, lv, .long (h.2.2.2.1 a i.toNatClampNeg) :: t, h) else none
  | _ => none
def aAal (tg q : Nat) (lv : aV) (st : List Value) (h : aM) : Option aO := match st with
  | .int i :: .ref a :: t => if aArr h a i tg tg = true ∧ aK ≤ a ∧ 104 ≤ tg ∧ tg < 107 then some (q, lv, aRf (h.2.2.2.2 a i.toNatClampNeg) :: t, h) else none
  | _ => none
def aIas (q : Nat) (lv : aV) (st : List Value) (h : aM) : Option aO := match st with
  | .int x :: .int i :: .ref a :: t => if aArr h a i 100 100 = true ∧ aK ≤ a then some (q, lv, t, aWi h a i.toNatClampNeg x) else none
  | _ => none
def aZas (q : Nat) (lv : aV) (st : List Value) (h : aM) : Option aO := match st with
  | .int x :: .int i :: .ref a :: t => if aArr h a i 102 102 = true ∧ aK ≤ a then some (q, lv, t, aWi h a i.toNatClampNeg (x &&& 1)) else none
  | _ => none
def aLas (q : Nat) (lv : aV) (st : List Value) (h : aM) : Option aO := match st with
  | .long x :: .int i :: .ref a :: t => if aArr h a i 101 101 = true ∧ aK ≤ a then some (q, lv, t, aWl h a i.toNatClampNeg x) else none
  | _ => none
/-- an object of kind c into an array of kind tg -/
def aAas (tg c q : Nat) (lv : aV) (st : List Value) (h : aM) : Option aO := match st with
  | .ref x :: .int i :: .ref a :: t => if aArr h a i tg tg = true ∧ aK ≤ a ∧ aK ≤ x ∧ h.1[x]? = some (c, aNf c) then some (q, lv, t, aWr h a i.toNatClampNeg (some x)) else none
  | _ => none
def aLen (q : Nat) (lv : aV) (st : List Value) (h : aM) : Option aO := match st with
  | .ref a :: t => match h.1[a]? with
    | some sh => if 100 ≤ sh.1 ∧ sh.1 < 107 then some (q, lv, .int (nI sh.2) :: t, h) else none
    | none => none
  | _ => none
def aNa (tg q : Nat) (lv : aV) (st : List Value) (h : aM) : Option aO := match st with
  | .int n :: t => if ¬ n < 0 ∧ n.toNatClampNeg ≤ 1000000 then some (q, lv, .ref h.1.length :: t, aNew h (tg, n.toNatClampNeg)) else none
  | _ => none
def aMna (q : Nat) (lv : aV) (st : List Value) (h : aM) : Option aO := match st with
  | .int k :: .int n :: t => if ¬ n < 0 ∧ ¬ k < 0 ∧ n.toNatClampNeg ≤ 1000 ∧ k.toNatClampNeg ≤ 1000 then some (q, lv, .ref h.1.length :: t, aMul h 104 100 n.toNatClampNeg k.toNatClampNeg) else none
  | _ => none
/-- System.arraycopy between int arrays, n places; the goal is a new array -/
def aCpy (q : Nat) (lv : aV) (st : List Value) (h : aM) : Option aO := match st with
  | .int n :: .int dp :: .ref b :: .int sp :: .ref a :: t => match h.1[a]?, h.1[b]? with
    | some (100, la), some (100, lb) => if ¬ n < 0 ∧ ¬ dp < 0 ∧ ¬ sp < 0 ∧ sp.toNatClampNeg + n.toNatClampNeg ≤ la ∧ dp.toNatClampNeg + n.toNatClampNeg ≤ lb ∧ aK ≤ b ∧ (t.map fun v => v.category).sum ≤ 8 then
        some (q, lv, t, (h.1, h.2.1, aRow h.2.2.1 b (va_cpy (h.2.2.1 a) (h.2.2.1 b) sp.toNatClampNeg dp.toNatClampNeg n.toNatClampNeg), h.2.2.2.1, h.2.2.2.2)) else none
    | _, _ => none
  | _ => none
def aSw (pc : Nat) (off : Int) (lv : aV) (st : List Value) (h : aM) : Option aO := match aTg pc off with
  | some t => some (t, lv, st, h)
  | none => none
def aDup2 (q : Nat) (lv : aV) (st : List Value) (h : aM) : Option aO := match st with
  | .long x :: t => some (q, lv, .long x :: .long x :: t, h)
  | x :: y :: t => if x.category = 1 ∧ y.category = 1 then some (q, lv, x :: y :: x :: y :: t, h) else none
  | _ => none
def aStep (ins : Instr) (n r1 r2 r3 pc : Nat) (lv : aV) (st : List Value) (h : aM) : Option aO :=
  match ins with
  | .iconst i => some (pc + n, lv, .int (Int32.ofInt i) :: st, h)
  | .bipush i => some (pc + n, lv, .int (Int8.ofInt i).toInt32 :: st, h)
  | .sipush i => some (pc + n, lv, .int (Int16.ofInt i).toInt32 :: st, h)
  | .lconst i => some (pc + n, lv, .long (Int64.ofNat (i : Nat)) :: st, h)
  | .aconst_null => some (pc + n, lv, .null :: st, h)
  | .ldc _ => some (pc + n, lv, (if r1 = 0 then .int (nI r2) else .ref r2) :: st, h)
  | .ldc_w _ => if r1 = 0 then some (pc + n, lv, .int (nI r2) :: st, h) else none
  | .ldc2_w _ => some (pc + n, lv, .long (lN r2) :: st, h)
  | .iload i => aLdI i (pc + n) lv st h
  | .iload_n i => aLdI (i : Nat) (pc + n) lv st h
  | .lload i => aLdL i (pc + n) lv st h
  | .lload_n i => aLdL (i : Nat) (pc + n) lv st h
  | .aload i => aLdA i (pc + n) lv st h
  | .aload_n i => aLdA (i : Nat) (pc + n) lv st h
  | .istore i => aSvI i (pc + n) lv st h
  | .istore_n i => aSvI (i : Nat) (pc + n) lv st h
  | .lstore i => aSvL i (pc + n) lv st h
  | .lstore_n i => aSvL (i : Nat) (pc + n) lv st h
  | .astore i => aSvA i (pc + n) lv st h
  | .astore_n i => aSvA (i : Nat) (pc + n) lv st h
  | .iinc i k => match lv[i]? with
    | some (some (.int x)) => some (pc + n, aSt1 lv i (.int (x + Int32.ofInt k)), st, h)
    | _ => none
  | .iadd => aIop (fun x y => some (x + y)) (pc + n) lv st h
  | .isub => aIop (fun x y => some (x - y)) (pc + n) lv st h
  | .imul => aIop (fun x y => some (x * y)) (pc + n) lv st h
  | .idiv => aIop (fun x y => if y = 0 then none else some (x / y)) (pc + n) lv st h
  | .irem => aIop (fun x y => if y = 0 then none else some (x - x / y * y)) (pc + n) lv st h
  | .iand => aIop (fun x y => some (x &&& y)) (pc + n) lv st h
  | .ior => aIop (fun x y => some (x ||| y)) (pc + n) lv st h
  | .ixor => aIop (fun x y => some (x ^^^ y)) (pc + n) lv st h
  | .ishl => aIop (fun x y => some (x <<< (y &&& 31))) (pc + n) lv st h
  | .ishr => aIop (fun x y => some (x >>> (y &&& 31))) (pc + n) lv st h
  | .iushr => aIop (fun x y => some (x.toUInt32 >>> (y.toUInt32 &&& Int32.toUInt32 31)).toInt32) (pc + n) lv st h
  | .ineg => aIun (fun x => .int (-x)) (pc + n) lv st h
  | .ladd => aLop (fun x y => some (x + y)) (pc + n) lv st h
  | .lsub => aLop (fun x y => some (x - y)) (pc + n) lv st h
  | .lmul => aLop (fun x y => some (x * y)) (pc + n) lv st h
  | .ldiv => aLop (fun x y => if y = 0 then none else some (x / y)) (pc + n) lv st h
  | .lrem => aLop (fun x y => if y = 0 then none else some (x - x / y * y)) (pc + n) lv st h
  | .land => aLop (fun x y => some (x &&& y)) (pc + n) lv st h
  | .lor => aLop (fun x y => some (x ||| y)) (pc + n) lv st h
  | .lshl => aLsh (fun x y => x <<< (y.toInt64 &&& 63)) (pc + n) lv st h
  | .lushr => aLsh (fun x y => (x.toUInt64 >>> (y.toInt64.toUInt64 &&& Int64.toUInt64 63)).toInt64) (pc + n) lv st h
  | .lcmp => match st with
    | .long y :: .long x :: t => some (pc + n, lv, .int (lg_cmp x y) :: t, h)
    | _ => none
  | .i2l => aIun (fun x => .long x.toInt64) (pc + n) lv st h
  | .i2b => aIun (fun x => .int x.toInt8.toInt32) (pc + n) lv st h
  | .i2c => aIun (fun x => .int (x.toUInt32 % 65536).toInt32) (pc + n) lv st h
  | .l2i => match st with
    | .long x :: t => some (pc + n, lv, .int x.toInt32 :: t, h)
    | _ => none
  | .dup => match st with
    | v :: t => if v.category = 1 then some (pc + n, lv, v :: v :: t, h) else none
    | _ => none
  | .pop => match st with
    | v :: t => if v.category = 1 then some (pc + n, lv, t, h) else none
    | _ => none
  | .dup2 => aDup2 (pc + n) lv st h
  | .ifCond cnd off => match st with
    | .int x :: t => aJ pc off n (aC2 cnd x 0 = true) lv t h
    | _ => none
  | .if_icmp cnd off => match st with
    | .int y :: .int x :: t => aJ pc off n (aC2 cnd x y = true) lv t h
    | _ => none
  | .ifnull off => match st with
    | .ref _ :: t => some (pc + n, lv, t, h)
    | .null :: t => aSw pc off lv t h
    | _ => none
  | .ifnonnull off => match st with
    | .ref _ :: t => aSw pc off lv t h
    | .null :: t => some (pc + n, lv, t, h)
    | _ => none
  | .goto off => aSw pc off lv st h
  | .tableswitch dflt lo hi offs => match st with
    | .int x :: t => if x.toInt < lo ∨ hi < x.toInt then aSw pc dflt lv t h else (match offs[(x.toInt - lo).toNat]? with
      | some off => aSw pc off lv t h
      | none => none)
    | _ => none
  | .lookupswitch dflt ps => match st with
    | .int x :: t => if (ps.toList.zip (ps.toList.drop 1)).all (fun (a, next) => a.1 < next.1) = true then aSw pc (Op.lookupswitch.offset ps.toList dflt x.toInt) lv t h else none
    | _ => none
  | .getfield _ => aGet r1 r2 r3 (pc + n) lv st h
  | .putfield _ => aPut r1 r2 r3 (pc + n) lv st h
  | .getstatic _ => some (pc + n, lv, (if r1 = 0 then .int (nI r2) else .ref r2) :: st, h)
  | .iaload => aIal 100 100 (pc + n) lv st h
  | .baload => aIal 102 103 (pc + n) lv st h
  | .laload => aLal (pc + n) lv st h
  | .aaload => aAal r1 (pc + n) lv st h
  | .iastore => aIas (pc + n) lv st h
  | .bastore => aZas (pc + n) lv st h
  | .lastore => aLas (pc + n) lv st h
  | .aastore => aAas r1 r2 (pc + n) lv st h
  | .arraylength => aLen (pc + n) lv st h
  | .new _ => some (pc + n, lv, .ref h.1.length :: st, aNew h (r1, aNf r1))
  | .newarray _ => aNa r1 (pc + n) lv st h
  | .anewarray _ => aNa r1 (pc + n) lv st h
  | .multianewarray _ _ => aMna (pc + n) lv st h
  | .invokespecial _ => match st with
    | .ref _ :: t => if r1 = 1001 ∧ (t.map fun v => v.category).sum ≤ 8 then some (pc + n, lv, t, h) else none
    | _ => none
  | .invokestatic _ => if r1 = 1000 then aCpy (pc + n) lv st h else none
  | _ => none
