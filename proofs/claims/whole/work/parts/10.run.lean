/-! ===== AM: runs ===== -/
abbrev aMi : Type := Nat → Option (MethodName × ByteArray × Nat × Option FieldType)
abbrev aCd : Type := Nat → Nat → Option aI
/-- a call whose way in the JVM is proved by hand: Law.man, the one that catches -/
abbrev aPm : Type := aM → List Value → Option (Value × aM)
def aIsRet (ins : Instr) : Bool := match ins with
  | .ireturn | .lreturn | .areturn | .return_ => true
  | _ => false
def aRetV (ins : Instr) (rt : Option FieldType) (st : List Value) : Option (Option Value) := match ins, rt, st with
  | .ireturn, some t, [.int x] => if narrow t (.int x) = .int x then some (some (.int x)) else none
  | .lreturn, some .long, [.long x] => some (some (.long x))
  | .areturn, some (.object _), [.ref a] => some (some (.ref a))
  | .areturn, some (.object _), [.null] => some (some .null)
  | .return_, none, [] => some none
  | _, _, _ => none
def aIsCall (ins : Instr) (r1 : Nat) : Bool := (match ins with
  | .invokevirtual _ | .invokestatic _ | .invokespecial _ => true
  | _ => false) && decide (r1 < 300)
def aNum (ins : Instr) (r2 : Nat) : Nat := match ins with
  | .invokestatic _ => r2
  | _ => r2 + 1
def aSlots (as : List Value) : Nat := (as.flatMap fun v => if v.category = 2 then [some v, none] else [some v]).length
def aRecv (ins : Instr) (r3 : Nat) (as : List Value) (h : aM) : Bool := match ins, as with
  | .invokevirtual _, .ref a :: _ => decide (h.1[a]? = some (r3, aNf r3))
  | .invokespecial _, .ref _ :: _ => true
  | .invokestatic _, _ => true
  | _, _ => false
def aCallOk (ins : Instr) (r2 r3 mL : Nat) (st : List Value) (h : aM) : Bool :=
  decide (aNum ins r2 ≤ st.length) && decide (((st.drop (aNum ins r2)).map fun v => v.category).sum ≤ 8) && decide (aSlots (st.take (aNum ins r2)).reverse ≤ mL) && aRecv ins r3 (st.take (aNum ins r2)).reverse h
def aIsPm (ins : Instr) (r1 : Nat) : Bool := match ins with
  | .invokestatic _ => decide (r1 = 1002)
  | _ => false
def aRun (mi : aMi) (cd : aCd) (pm : aPm) : Nat → Nat → Nat → Nat → aV → List Value → aM → Option (Option Value × aM)
  | 0, _, _, _, _, _, _ => none
  | n + 1, d, k, pc, lv, st, h => match cd k pc with
    | none => none
    | some (ins, len, r1, r2, r3) =>
      if aIsRet ins = true then (match mi k with
        | some (_, _, _, rt) => (match aRetV ins rt st with
          | some v => some (v, h)
          | none => none)
        | none => none)
      else if aIsCall ins r1 = true then (match d, mi r1 with
        | d' + 1, some (_, _, mL, _) => if aCallOk ins r2 r3 mL st h = true then (match aRun mi cd pm n d' r1 0 (aArg mL (st.take (aNum ins r2)).reverse) [] h with
            | some (v, h1) => aRun mi cd pm n (d' + 1) k (pc + len) lv (v.toList ++ st.drop (aNum ins r2)) h1
            | none => none) else none
        | _, _ => none)
      else if aIsPm ins r1 = true then (if 10 ≤ d ∧ 4 ≤ st.length ∧ ((st.drop 4).map fun v => v.category).sum ≤ 8 then (match pm h (st.take 4).reverse with
          | some (v, h1) => aRun mi cd pm n d k (pc + len) lv (v :: st.drop 4) h1
          | none => none) else none)
      else (match aStep ins len r1 r2 r3 pc lv st h with
        | some o => aRun mi cd pm n d k o.1 o.2.1 o.2.2.1 o.2.2.2
        | none => none)
def aYman : MethodName := ⟨"GallopDispatchLaw", "man", "(LGallopDispatch;II[J)I"⟩
/-- what must stand in the tables for an instruction of a method of class 'own' -/
def aVal (mi : aMi) (y : MethodName) (ins : Instr) (r1 r2 r3 : Nat) : Prop := match ins with
  | .ldc i => (r1 = 0 ∧ Cond.constant y.cls i (nI r2) ∈ aWs) ∨ (r1 = 1 ∧ ∃ tx, (y.cls, i, tx, r2) ∈ aStrs)
  | .ldc_w i => Cond.constant y.cls i (nI r2) ∈ aWs
  | .ldc2_w i => Cond.constantLong y.cls i (lN r2) ∈ aWs
  | .getfield i => (∃ r : vw_C, aCl[r1]? = some r ∧ Cond.fieldLink y.cls i (r.2.1 r2).1 (r.2.1 r2).2.1 (r.2.1 r2).2.2.1 ∈ aWs ∧ r3 = aFk r1 r2) ∨ (r1 = 12 ∧ ((r2 = 0 ∧ r3 = 2 ∧ Cond.fieldLink y.cls i "java/lang/String" "value" "[B" ∈ aWs) ∨ (r2 = 1 ∧ r3 = 0 ∧ Cond.fieldLink y.cls i "java/lang/String" "coder" "B" ∈ aWs)))
  | .putfield i => ∃ r : vw_C, aCl[r1]? = some r ∧ Cond.fieldLink y.cls i (r.2.1 r2).1 (r.2.1 r2).2.1 (r.2.1 r2).2.2.1 ∈ aWs ∧ r3 = aFk r1 r2 ∧ ((r.2.1 r2).2.2.2 = false ∨ (y.name = "<init>" ∧ (r.2.1 r2).1 = y.cls))
  | .getstatic i => ∃ C n d, (C, n, d, r1, r2) ∈ aStats ∧ Cond.fieldLink y.cls i C n d ∈ aWs
  | .new i => ∃ r : vw_C, aCl[r1]? = some r ∧ Cond.classLink y.cls i r.1 ∈ aWs ∧ Cond.instantiable r.1 r.2.2 ∈ aWs ∧ Cond.initialized r.1 ∈ aWs
  | .newarray ty => ((ty = .int ∧ r1 = 100) ∨ (ty = .long ∧ r1 = 101) ∨ (ty = .boolean ∧ r1 = 102)) ∧ Cond.arrayClass (newarray.typeOf ty) ∈ aWs
  | .anewarray i => (r1 = 105 ∧ Cond.classLink y.cls i "GallopDispatch$Law" ∈ aWs) ∨ (r1 = 106 ∧ Cond.classLink y.cls i "GallopDispatch$State" ∈ aWs)
  | .multianewarray i d => d = 2 ∧ Cond.classLink y.cls i "[[I" ∈ aWs ∧ Cond.arrayClass .int ∈ aWs
  | .aastore => (r1 = 105 ∧ r2 = 3) ∨ (r1 = 106 ∧ r2 = 7)
  | .invokespecial i => (300 ≤ r1 ∧ Cond.methodLink y.cls i Lib.objectInit ∈ aWs ∧ Cond.instanceMethod Lib.objectInit ∈ aWs ∧ Cond.code Lib.objectInit ⟨#[0xb1]⟩ 1 none ∈ aWs) ∨
      (r1 < 300 ∧ ∀ z b mL rt, mi r1 = some (z, b, mL, rt) → rt = none ∧ z.name = "<init>" ∧ Cond.instanceMethod z ∈ aWs ∧ (parseMethodDescriptor z.desc).map (fun d => d.parameters.length) = some r2 ∧ (Cond.methodLink y.cls i z ∈ aWs ∨ ∃ host, Cond.methodLinkNest y.cls i z host ∈ aNests))
  | .invokestatic i => (r1 = 1000 ∧ Cond.methodLink y.cls i arraycopyName ∈ aWs ∧ Cond.native arraycopyName ∈ aWs ∧ Cond.static arraycopyName ∈ aWs ∧ Cond.initialized "java/lang/System" ∈ aWs) ∨ (r1 = 1002 ∧ y.cls = "GallopDispatchLaw" ∧ Cond.methodLink y.cls i aYman ∈ aWs) ∨
      (r1 < 300 ∧ ∀ z b mL rt, mi r1 = some (z, b, mL, rt) → Cond.static z ∈ aWs ∧ (parseMethodDescriptor z.desc).map (fun d => d.parameters.length) = some r2 ∧ (Cond.methodLink y.cls i z ∈ aWs ∨ ∃ host, Cond.methodLinkNest y.cls i z host ∈ aNests))
  | .invokevirtual i => ∀ z b mL rt, mi r1 = some (z, b, mL, rt) → Cond.methodLink y.cls i z ∈ aWs ∧ Cond.instanceMethod z ∈ aWs ∧ Cond.selects z.cls z z ∈ aWs ∧ (parseMethodDescriptor z.desc).map (fun d => d.parameters.length) = some r2 ∧ ((r3 = 12 ∧ z.cls = "java/lang/String") ∨ ∃ r : vw_C, aCl[r3]? = some r ∧ r.1 = z.cls)
  | _ => True
def aOk (mi : aMi) (cd : aCd) : Prop := ∀ (k pc : Nat) (ins : Instr) (n r1 r2 r3 : Nat), cd k pc = some (ins, n, r1, r2, r3) → ∃ y b mL rt, mi k = some (y, b, mL, rt) ∧ decode b pc = .ok (ins, n) ∧ (n = aLn ins ∨ (∃ a b c d, ins = .tableswitch a b c d) ∨ ∃ a b, ins = .lookupswitch a b) ∧ aVal mi y ins r1 r2 r3
def aMOk (mi : aMi) : Prop := ∀ (k : Nat), k < 300 → ∀ (y : MethodName) (b : ByteArray) (mL : Nat) (rt : Option FieldType), mi k = some (y, b, mL, rt) → Cond.code y b mL rt ∈ aWs ∧ plainFor y = true ∧ Cond.initialized y.cls ∈ aWs ∧ y.cls ≠ "java/lang/invoke/MethodHandle" ∧ y.cls ≠ "java/lang/invoke/VarHandle" ∧ mL ≤ 40
def aLo (d : Nat) : Nat := 100 + 64 * d
theorem aWs_good : GoodIn aWs aWs := fun w h => ⟨h, good_of_word (List.mem_filter.mp h).2⟩
theorem aKS.calling {E : aE} {O : aOl} {U : State} (k : aKS E O U) (g : JFrame) (mk : MethodId) (a : Array Value) : aKS E O (U.calling g mk a) := k.kept (State.WarmedH.refl U) (Nat.le_refl _) (fun _ _ _ => rfl)
def aPc (E : aE) (O : aOl) (h : aM) (as : List Value) : Array Value → State → Prop := va_Pc (as.map (aTv E)) (fun U => aKS E O U ∧ aR E O h U.heap)
def aQc (E : aE) (O : aOl) (h' : aM) (v : Option Value) : State → Outcome → State → Prop := fun st o t => (o = .returned (v.map (aTv E)) ∧ aR E O h' t.heap) ∧ va_F (aNw E) st t
theorem aPc.blind {E : aE} {O : aOl} {h : aM} {as : List Value} : FrameBlind (aPc E O h as) := fun a U g mk q => ⟨q.1, q.2.1.calling g mk a, q.2.2⟩
section RUN
variable {p : Program} {l : Launch} {e : Env} {R : Room} {s : State} {m : MethodId} {args : Array Value} {below : List Frame} {meth : Method} {c : Code} {Q : State → Prop}
theorem aCallGo {H : Heap} {locs : List Loc} {cells slots mc ms : Nat} {g : JFrame} {rest : List Value} {Qa : State → Outcome → State → Prop} {free : Addr → Prop} (hr : CallRun p l e R s m args below meth c H locs cells slots mc ms g rest Qa free)
    (kk : ∀ (v : Option Value) (st₀ t : State) (L : List Loc), st₀.heap = H → (∀ q ∈ L, free q.base) → Qa st₀ (.returned v) t → W p l e R s m args below meth c t.heap (locs ++ L) (cells + mc) (slots + ms) Q { g with pc := g.pc + 3, stack := v.toList ++ rest }) : W p l e R s m args below meth c H locs cells slots Q g := by
  intro T hT X
  obtain ⟨v, st₀, t, T', L, h0, X', hL, e1, hq, st⟩ := hr T hT X
  obtain ⟨t2, a1, b1⟩ := kk v st₀ t L h0 hL hq T' e1 X'
  exact ⟨t2, st t2 a1, b1⟩
theorem aRunOf {H : Heap} {locs : List Loc} {cells slots mc ms : Nat} {g : JFrame} {rest : List Value} {Qa : State → Outcome → State → Prop} {free : Addr → Prop} (hr : va_Run p l e R s m args below meth c H locs cells slots mc ms g rest Qa free) : CallRun p l e R s m args below meth c H locs cells slots mc ms g rest Qa free := by
  intro T hT X
  obtain ⟨v, st₀, t, T', L, h0, X', hL, e1, -, hq, st⟩ := hr T hT X
  exact ⟨v, st₀, t, T', L, h0, X', hL, e1, hq, st⟩
/-- the caught call by hand: what it must do -/
def aPmOk (l : Launch) (E : aE) (O : aOl) (pm : aPm) : Prop := ∀ (h : aM) (as : List Value) (v : Value) (h1 : aM), pm h as = some (v, h1) → as.length = 4 → h.1.length ≤ h1.1.length ∧ h.2.1 ≤ h1.2.1 ∧
  ∀ {p : Program} {e : Env} {R : Room} {s : State} {m : MethodId} {args : Array Value} {below : List Frame} {meth : Method} {c : Code} {H : Heap} {locs : List Loc} {cells slots i pc : Nat} {ls : Array Slot} {rest : List Value},
    p.tables.exec = Jvm.exec → c.maxLocals = ls.size → (∀ w ∈ aWs, w.before args s = true) → s.vm.findClass "GallopDispatchLaw" = some m.cls → Cond.methodLink "GallopDispatchLaw" i aYman ∈ aWs → aKS E O s → aR E O h H → va_S (aNw E) s.heap H locs → (rest.map fun v => v.category).sum ≤ 8 →
    11 ≤ R.frames → aLo 10 ≤ R.locals → cells + (h1.1.length - h.1.length) ≤ R.cells → slots + (h1.2.1 - h.2.1) ≤ R.slots → decode c.code pc = .ok (.invokestatic i, 3) →
    CallRun p l e R s m args below meth c H locs cells slots (h1.1.length - h.1.length) (h1.2.1 - h.2.1) (F0 m pc ls ((as.reverse).map (aTv E) ++ rest)) rest (aQc E O h1 (some v)) (aNw E)
/-- sizes only grow -/
theorem aStep_len {ins : Instr} {n r1 r2 r3 pc : Nat} {lv : aV} {st : List Value} {h : aM} {o : aO} (hs : aStep ins n r1 r2 r3 pc lv st h = some o) : h.1.length ≤ o.2.2.2.1.length ∧ h.2.1 ≤ o.2.2.2.2.1 ∧ o.2.1.length = lv.length := by
  cases ins <;> simp only [aStep, aLdI, aLdL, aLdA, aSvI, aSvL, aSvA, aIop, aLop, aLsh, aIun, aGet, aPut, aIal, aLal, aAal, aIas, aZas, aLas, aAas, aLen, aNa, aMna, aCpy, aSw, aJ, aDup2] at hs <;> (repeat' split at hs) <;> first
    | (cases hs; done)
    | (cases hs; simp [aNew, aMul, aWi, aWl, aWr, aSt1, aSt2, aKill_len]; done)
    | (cases hs; simp [aNew, aMul, aWi, aWl, aWr, aSt1, aSt2, aKill_len]; omega)
end RUN
