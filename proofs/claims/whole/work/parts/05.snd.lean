/-! ===== AM and the JVM: one instruction (no heap) ===== -/
def aLn (ins : Instr) : Nat := match ins with
  | .bipush _ => 2
  | .sipush _ => 3
  | .ldc _ => 2
  | .ldc_w _ => 3
  | .ldc2_w _ => 3
  | .iload _ => 2
  | .lload _ => 2
  | .aload _ => 2
  | .istore _ => 2
  | .lstore _ => 2
  | .astore _ => 2
  | .iinc _ _ => 3
  | .ifCond _ _ => 3
  | .if_icmp _ _ => 3
  | .ifnull _ => 3
  | .ifnonnull _ => 3
  | .goto _ => 3
  | .getfield _ => 3
  | .putfield _ => 3
  | .getstatic _ => 3
  | .new _ => 3
  | .newarray _ => 2
  | .anewarray _ => 3
  | .multianewarray _ _ => 4
  | .invokespecial _ => 3
  | .invokestatic _ => 3
  | .invokevirtual _ => 3
  | _ => 1
/-- instructions that need neither heap nor tables -/
def aPure (ins : Instr) : Bool := match ins with
  | .iconst _ | .bipush _ | .sipush _ | .lconst _ | .aconst_null | .iload _ | .iload_n _ | .lload _ | .lload_n _ | .aload _ | .aload_n _ | .istore _ | .istore_n _ | .lstore _ | .lstore_n _ | .astore _ | .astore_n _ | .iinc _ _
  | .iadd | .isub | .imul | .idiv | .irem | .iand | .ior | .ixor | .ishl | .ishr | .iushr | .ineg | .ladd | .lsub | .lmul | .ldiv | .lrem | .land | .lor | .lshl | .lushr | .lcmp | .i2l | .i2b | .i2c | .l2i | .dup | .pop | .dup2
  | .ifCond _ _ | .if_icmp _ _ | .ifnull _ | .ifnonnull _ | .goto _ | .tableswitch _ _ _ _ | .lookupswitch _ _ => true
  | _ => false
section SND
variable {p : Program} {l : Launch} {e : Env} {R : Room} {s : State} {m : MethodId} {args : Array Value} {below : List Frame} {meth : Method} {c : Code} {Q : State → Prop}
def aG (p : Program) (l : Launch) (e : Env) (R : Room) (s : State) (m : MethodId) (args : Array Value) (below : List Frame) (meth : Method) (c : Code) (Q : State → Prop) (E : aE) (O : aOl) (b0 b1 pc : Nat) (lv : aV) (st : List Value) (h : aM) : Prop :=
  ∀ (ls : Array Slot) (H : Heap) (locs : List Loc), aLR E ls lv → aR E O h H → va_S (aNw E) s.heap H locs → W p l e R s m args below meth c H locs (h.1.length - b0) (h.2.1 - b1) Q (F0 m pc ls (st.map (aTv E)))
variable {cc : ByteArray} {E : aE} {O : aOl} {b0 b1 : Nat}
theorem aIop_inv {f : Int32 → Int32 → Option Int32} {q : Nat} {lv : aV} {st : List Value} {h : aM} {o : aO} (hs : aIop f q lv st h = some o) : ∃ x y z t, st = .int y :: .int x :: t ∧ f x y = some z ∧ o = (q, lv, .int z :: t, h) := by
  unfold aIop at hs
  split at hs
  · rename_i y x t
    split at hs
    · rename_i z hz
      cases hs
      exact ⟨x, y, z, t, rfl, hz, rfl⟩
    · cases hs
  · cases hs
theorem aLop_inv {f : Int64 → Int64 → Option Int64} {q : Nat} {lv : aV} {st : List Value} {h : aM} {o : aO} (hs : aLop f q lv st h = some o) : ∃ x y z t, st = .long y :: .long x :: t ∧ f x y = some z ∧ o = (q, lv, .long z :: t, h) := by
  unfold aLop at hs
  split at hs
  · rename_i y x t
    split at hs
    · rename_i z hz
      cases hs
      exact ⟨x, y, z, t, rfl, hz, rfl⟩
    · cases hs
  · cases hs
theorem aLsh_inv {f : Int64 → Int32 → Int64} {q : Nat} {lv : aV} {st : List Value} {h : aM} {o : aO} (hs : aLsh f q lv st h = some o) : ∃ x y t, st = .int y :: .long x :: t ∧ o = (q, lv, .long (f x y) :: t, h) := by
  unfold aLsh at hs
  split at hs
  · rename_i y x t
    cases hs
    exact ⟨x, y, t, rfl, rfl⟩
  · cases hs
theorem aIun_inv {f : Int32 → Value} {q : Nat} {lv : aV} {st : List Value} {h : aM} {o : aO} (hs : aIun f q lv st h = some o) : ∃ x t, st = .int x :: t ∧ o = (q, lv, f x :: t, h) := by
  unfold aIun at hs
  split at hs
  · rename_i x t
    cases hs
    exact ⟨x, t, rfl, rfl⟩
  · cases hs
theorem aLdI_inv {i q : Nat} {lv : aV} {st : List Value} {h : aM} {o : aO} (hs : aLdI i q lv st h = some o) : ∃ x, lv[i]? = some (some (.int x)) ∧ o = (q, lv, .int x :: st, h) := by
  unfold aLdI at hs
  split at hs
  · rename_i x hx
    cases hs
    exact ⟨x, hx, rfl⟩
  · cases hs
theorem aLdL_inv {i q : Nat} {lv : aV} {st : List Value} {h : aM} {o : aO} (hs : aLdL i q lv st h = some o) : ∃ x, lv[i]? = some (some (.long x)) ∧ o = (q, lv, .long x :: st, h) := by
  unfold aLdL at hs
  split at hs
  · rename_i x hx
    cases hs
    exact ⟨x, hx, rfl⟩
  · cases hs
theorem aLdA_inv {i q : Nat} {lv : aV} {st : List Value} {h : aM} {o : aO} (hs : aLdA i q lv st h = some o) : (∃ x, lv[i]? = some (some (.ref x)) ∧ o = (q, lv, .ref x :: st, h)) ∨ (lv[i]? = some (some .null) ∧ o = (q, lv, .null :: st, h)) := by
  unfold aLdA at hs
  split at hs
  · rename_i x hx
    cases hs
    exact Or.inl ⟨x, hx, rfl⟩
  · rename_i hx
    cases hs
    exact Or.inr ⟨hx, rfl⟩
  · cases hs
theorem aSvI_inv {i q : Nat} {lv : aV} {st : List Value} {h : aM} {o : aO} (hs : aSvI i q lv st h = some o) : ∃ x t, st = .int x :: t ∧ i < lv.length ∧ o = (q, aSt1 lv i (.int x), t, h) := by
  unfold aSvI at hs
  split at hs
  · rename_i x t
    split at hs
    · rename_i hi
      cases hs
      exact ⟨x, t, rfl, hi, rfl⟩
    · cases hs
  · cases hs
theorem aSvL_inv {i q : Nat} {lv : aV} {st : List Value} {h : aM} {o : aO} (hs : aSvL i q lv st h = some o) : ∃ x t, st = .long x :: t ∧ i + 1 < lv.length ∧ o = (q, aSt2 lv i (.long x), t, h) := by
  unfold aSvL at hs
  split at hs
  · rename_i x t
    split at hs
    · rename_i hi
      cases hs
      exact ⟨x, t, rfl, hi, rfl⟩
    · cases hs
  · cases hs
theorem aSvA_inv {i q : Nat} {lv : aV} {st : List Value} {h : aM} {o : aO} (hs : aSvA i q lv st h = some o) : ∃ x t, st = .ref x :: t ∧ i < lv.length ∧ o = (q, aSt1 lv i (.ref x), t, h) := by
  unfold aSvA at hs
  split at hs
  · rename_i x t
    split at hs
    · rename_i hi
      cases hs
      exact ⟨x, t, rfl, hi, rfl⟩
    · cases hs
  · cases hs
theorem aTg_inv {pc t : Nat} {off : Int} (h : aTg pc off = some t) : (pc : Int) + off = (t : Int) := by
  unfold aTg at h
  split at h
  · rename_i e
    cases h
    exact e.symm
  · cases h
theorem aSw_inv {pc : Nat} {off : Int} {lv : aV} {st : List Value} {h : aM} {o : aO} (hs : aSw pc off lv st h = some o) : ∃ t, (pc : Int) + off = ((t : Nat) : Int) ∧ o = (t, lv, st, h) := by
  unfold aSw at hs
  split at hs
  · rename_i t ht
    cases hs
    exact ⟨t, aTg_inv ht, rfl⟩
  · cases hs
theorem aJ_inv {pc n : Nat} {off : Int} {cnd : Prop} [Decidable cnd] {lv : aV} {st : List Value} {h : aM} {o : aO} (hs : aJ pc off n cnd lv st h = some o) : ∃ t, (pc : Int) + off = ((t : Nat) : Int) ∧ o = (if cnd then t else pc + n, lv, st, h) := by
  unfold aJ at hs
  split at hs
  · rename_i t ht
    cases hs
    exact ⟨t, aTg_inv ht, rfl⟩
  · cases hs
set_option maxHeartbeats 4000000 in
theorem aSnd1 {ins : Instr} {n r1 r2 r3 pc : Nat} {lv : aV} {st : List Value} {h : aM} {o : aO} (hx : p.tables.exec = Jvm.exec) (hb : c.code = cc) (hd : decode cc pc = .ok (ins, n)) (hn : n = aLn ins ∨ (∃ a b c d, ins = .tableswitch a b c d) ∨ ∃ a b, ins = .lookupswitch a b) (hp : aPure ins = true) (hs : aStep ins n r1 r2 r3 pc lv st h = some o)
    (k : aG p l e R s m args below meth c Q E O b0 b1 o.1 o.2.1 o.2.2.1 o.2.2.2) : aG p l e R s m args below meth c Q E O b0 b1 pc lv st h := by
  cases ins <;> simp only [aPure, Bool.false_eq_true] at hp <;> simp only [aStep] at hs
  case iconst i =>
    simp [aLn] at hn; subst hn; cases hs
    exact fun ls H locs hL hA hS => lv_iconst hx hb hd rfl (k ls H locs hL hA hS)
  case bipush i =>
    simp [aLn] at hn; subst hn; cases hs
    exact fun ls H locs hL hA hS => lv_bipush hx hb hd rfl (k ls H locs hL hA hS)
  case sipush i =>
    simp [aLn] at hn; subst hn; cases hs
    exact fun ls H locs hL hA hS => lv_sipush hx hb hd rfl (k ls H locs hL hA hS)
  case lconst i =>
    simp [aLn] at hn; subst hn; cases hs
    exact fun ls H locs hL hA hS => lv_lconst hx hb hd rfl (k ls H locs hL hA hS)
  case aconst_null =>
    simp [aLn] at hn; subst hn; cases hs
    exact fun ls H locs hL hA hS => lv_null hx hb hd (k ls H locs hL hA hS)
  case iload i =>
    simp [aLn] at hn; subst hn; obtain ⟨x, hl, rfl⟩ := aLdI_inv hs
    exact fun ls H locs hL hA hS => lv_iload hx hb hd (hL.2.2 _ _ hl) (k ls H locs hL hA hS)
  case iload_n i =>
    simp [aLn] at hn; subst hn; obtain ⟨x, hl, rfl⟩ := aLdI_inv hs
    exact fun ls H locs hL hA hS => lv_iload_n hx hb hd rfl (hL.2.2 _ _ hl) (k ls H locs hL hA hS)
  case lload i =>
    simp [aLn] at hn; subst hn; obtain ⟨x, hl, rfl⟩ := aLdL_inv hs
    exact fun ls H locs hL hA hS => lv_lload hx hb hd (hL.2.2 _ _ hl) (k ls H locs hL hA hS)
  case lload_n i =>
    simp [aLn] at hn; subst hn; obtain ⟨x, hl, rfl⟩ := aLdL_inv hs
    exact fun ls H locs hL hA hS => lv_lload_n hx hb hd rfl (hL.2.2 _ _ hl) (k ls H locs hL hA hS)
  case aload i =>
    simp [aLn] at hn; subst hn; rcases aLdA_inv hs with ⟨x, hl, rfl⟩ | ⟨hl, rfl⟩
    · exact fun ls H locs hL hA hS => lv_aload hx hb hd (hL.2.2 _ _ hl) (k ls H locs hL hA hS)
    · exact fun ls H locs hL hA hS => lv_aloadN hx hb hd (hL.2.2 _ _ hl) (k ls H locs hL hA hS)
  case aload_n i =>
    simp [aLn] at hn; subst hn; rcases aLdA_inv hs with ⟨x, hl, rfl⟩ | ⟨hl, rfl⟩
    · exact fun ls H locs hL hA hS => lv_aload_n hx hb hd rfl (hL.2.2 _ _ hl) (k ls H locs hL hA hS)
    · exact fun ls H locs hL hA hS => lv_aload_nN hx hb hd rfl (hL.2.2 _ _ hl) (k ls H locs hL hA hS)
  case istore i =>
    simp [aLn] at hn; subst hn; obtain ⟨x, t, rfl, hi, rfl⟩ := aSvI_inv hs
    exact fun ls H locs hL hA hS => lv_istore hx hb hd hL.has hi rfl fun ls' hL' => k ls' H locs (aLR.of1 (v := .int x) hi hL') hA hS
  case istore_n i =>
    simp [aLn] at hn; subst hn; obtain ⟨x, t, rfl, hi, rfl⟩ := aSvI_inv hs
    exact fun ls H locs hL hA hS => lv_istore_n hx hb hd rfl hL.has hi rfl fun ls' hL' => k ls' H locs (aLR.of1 (v := .int x) hi hL') hA hS
  case lstore i =>
    simp [aLn] at hn; subst hn; obtain ⟨x, t, rfl, hi, rfl⟩ := aSvL_inv hs
    exact fun ls H locs hL hA hS => lv_lstore hx hb hd hL.has hi rfl fun ls' hL' => k ls' H locs (aLR.of2 (v := .long x) hi hL') hA hS
  case lstore_n i =>
    simp [aLn] at hn; subst hn; obtain ⟨x, t, rfl, hi, rfl⟩ := aSvL_inv hs
    exact fun ls H locs hL hA hS => lv_lstore_n hx hb hd rfl hL.has hi rfl fun ls' hL' => k ls' H locs (aLR.of2 (v := .long x) hi hL') hA hS
  case astore i =>
    simp [aLn] at hn; subst hn; obtain ⟨x, t, rfl, hi, rfl⟩ := aSvA_inv hs
    exact fun ls H locs hL hA hS => lv_astore hx hb hd hL.has hi rfl fun ls' hL' => k ls' H locs (aLR.of1 (v := .ref x) hi hL') hA hS
  case astore_n i =>
    simp [aLn] at hn; subst hn; obtain ⟨x, t, rfl, hi, rfl⟩ := aSvA_inv hs
    exact fun ls H locs hL hA hS => lv_astore_n hx hb hd rfl hL.has hi rfl fun ls' hL' => k ls' H locs (aLR.of1 (v := .ref x) hi hL') hA hS
  case iinc i q =>
    simp [aLn] at hn; subst hn
    split at hs
    · rename_i x hl
      cases hs
      intro ls H locs hL hA hS
      have hi := (List.getElem?_eq_some_iff.mp hl).1
      obtain ⟨j, hj⟩ := List.getElem?_of_mem (aLs_mem.mpr ⟨_, hl, rfl⟩ : (i, aTv E (.int x)) ∈ aLs E lv)
      exact lv_iinc hx hb hd hL.has hj rfl hi rfl fun ls' hL' => k ls' H locs (aLR.of1 (v := .int (x + Int32.ofInt q)) hi hL') hA hS
    · cases hs
  case iadd =>
    simp [aLn] at hn; subst hn; obtain ⟨x, y, z, t, rfl, hz, rfl⟩ := aIop_inv hs
    cases hz
    exact fun ls H locs hL hA hS => lv_iadd hx hb hd (k ls H locs hL hA hS)
  case isub =>
    simp [aLn] at hn; subst hn; obtain ⟨x, y, z, t, rfl, hz, rfl⟩ := aIop_inv hs
    cases hz
    exact fun ls H locs hL hA hS => lv_isub hx hb hd (k ls H locs hL hA hS)
  case imul =>
    simp [aLn] at hn; subst hn; obtain ⟨x, y, z, t, rfl, hz, rfl⟩ := aIop_inv hs
    cases hz
    exact fun ls H locs hL hA hS => lv_imul hx hb hd (k ls H locs hL hA hS)
  case idiv =>
    simp [aLn] at hn; subst hn; obtain ⟨x, y, z, t, rfl, hz, rfl⟩ := aIop_inv hs
    by_cases hy : y = 0
    · simp [hy] at hz
    · simp only [if_neg hy, Option.some.injEq] at hz
      subst hz
      exact fun ls H locs hL hA hS => lv_idiv hx hb hd hy (k ls H locs hL hA hS)
  case irem =>
    simp [aLn] at hn; subst hn; obtain ⟨x, y, z, t, rfl, hz, rfl⟩ := aIop_inv hs
    by_cases hy : y = 0
    · simp [hy] at hz
    · simp only [if_neg hy, Option.some.injEq] at hz
      subst hz
      exact fun ls H locs hL hA hS => lv_irem hx hb hd hy (k ls H locs hL hA hS)
  case iand =>
    simp [aLn] at hn; subst hn; obtain ⟨x, y, z, t, rfl, hz, rfl⟩ := aIop_inv hs
    cases hz
    exact fun ls H locs hL hA hS => lv_iand hx hb hd (k ls H locs hL hA hS)
  case ior =>
    simp [aLn] at hn; subst hn; obtain ⟨x, y, z, t, rfl, hz, rfl⟩ := aIop_inv hs
    cases hz
    exact fun ls H locs hL hA hS => lv_ior hx hb hd (k ls H locs hL hA hS)
  case ixor =>
    simp [aLn] at hn; subst hn; obtain ⟨x, y, z, t, rfl, hz, rfl⟩ := aIop_inv hs
    cases hz
    exact fun ls H locs hL hA hS => lv_ixor hx hb hd (k ls H locs hL hA hS)
  case ishl =>
    simp [aLn] at hn; subst hn; obtain ⟨x, y, z, t, rfl, hz, rfl⟩ := aIop_inv hs
    cases hz
    exact fun ls H locs hL hA hS => lv_ishl hx hb hd (k ls H locs hL hA hS)
  case ishr =>
    simp [aLn] at hn; subst hn; obtain ⟨x, y, z, t, rfl, hz, rfl⟩ := aIop_inv hs
    cases hz
    exact fun ls H locs hL hA hS => lv_ishr hx hb hd (k ls H locs hL hA hS)
  case iushr =>
    simp [aLn] at hn; subst hn; obtain ⟨x, y, z, t, rfl, hz, rfl⟩ := aIop_inv hs
    cases hz
    exact fun ls H locs hL hA hS => lv_iushr hx hb hd rfl (k ls H locs hL hA hS)
  case ineg =>
    simp [aLn] at hn; subst hn; obtain ⟨x, t, rfl, rfl⟩ := aIun_inv hs
    exact fun ls H locs hL hA hS => lv_ineg hx hb hd (k ls H locs hL hA hS)
  case ladd =>
    simp [aLn] at hn; subst hn; obtain ⟨x, y, z, t, rfl, hz, rfl⟩ := aLop_inv hs
    cases hz
    exact fun ls H locs hL hA hS => lv_ladd hx hb hd (k ls H locs hL hA hS)
  case lsub =>
    simp [aLn] at hn; subst hn; obtain ⟨x, y, z, t, rfl, hz, rfl⟩ := aLop_inv hs
    cases hz
    exact fun ls H locs hL hA hS => lv_lsub hx hb hd (k ls H locs hL hA hS)
  case lmul =>
    simp [aLn] at hn; subst hn; obtain ⟨x, y, z, t, rfl, hz, rfl⟩ := aLop_inv hs
    cases hz
    exact fun ls H locs hL hA hS => lv_lmul hx hb hd (k ls H locs hL hA hS)
  case ldiv =>
    simp [aLn] at hn; subst hn; obtain ⟨x, y, z, t, rfl, hz, rfl⟩ := aLop_inv hs
    by_cases hy : y = 0
    · simp [hy] at hz
    · simp only [if_neg hy, Option.some.injEq] at hz
      subst hz
      exact fun ls H locs hL hA hS => lv_ldiv hx hb hd hy (k ls H locs hL hA hS)
  case lrem =>
    simp [aLn] at hn; subst hn; obtain ⟨x, y, z, t, rfl, hz, rfl⟩ := aLop_inv hs
    by_cases hy : y = 0
    · simp [hy] at hz
    · simp only [if_neg hy, Option.some.injEq] at hz
      subst hz
      exact fun ls H locs hL hA hS => lv_lrem hx hb hd hy (k ls H locs hL hA hS)
  case land =>
    simp [aLn] at hn; subst hn; obtain ⟨x, y, z, t, rfl, hz, rfl⟩ := aLop_inv hs
    cases hz
    exact fun ls H locs hL hA hS => lv_land hx hb hd (k ls H locs hL hA hS)
  case lor =>
    simp [aLn] at hn; subst hn; obtain ⟨x, y, z, t, rfl, hz, rfl⟩ := aLop_inv hs
    cases hz
    exact fun ls H locs hL hA hS => lv_lor hx hb hd (k ls H locs hL hA hS)
  case lshl =>
    simp [aLn] at hn; subst hn; obtain ⟨x, y, t, rfl, rfl⟩ := aLsh_inv hs
    exact fun ls H locs hL hA hS => lv_lshl hx hb hd rfl (k ls H locs hL hA hS)
  case lushr =>
    simp [aLn] at hn; subst hn; obtain ⟨x, y, t, rfl, rfl⟩ := aLsh_inv hs
    exact fun ls H locs hL hA hS => lv_lushr hx hb hd rfl (k ls H locs hL hA hS)
  case lcmp =>
    simp [aLn] at hn; subst hn
    split at hs
    · cases hs
      exact fun ls H locs hL hA hS => W.lcmp hx hb hd (k ls H locs hL hA hS)
    · cases hs
  case i2l =>
    simp [aLn] at hn; subst hn; obtain ⟨x, t, rfl, rfl⟩ := aIun_inv hs
    exact fun ls H locs hL hA hS => lv_i2l hx hb hd rfl (k ls H locs hL hA hS)
  case i2b =>
    simp [aLn] at hn; subst hn; obtain ⟨x, t, rfl, rfl⟩ := aIun_inv hs
    exact fun ls H locs hL hA hS => lv_i2b hx hb hd rfl (k ls H locs hL hA hS)
  case i2c =>
    simp [aLn] at hn; subst hn; obtain ⟨x, t, rfl, rfl⟩ := aIun_inv hs
    exact fun ls H locs hL hA hS => lv_i2c hx hb hd rfl (k ls H locs hL hA hS)
  case l2i =>
    simp [aLn] at hn; subst hn
    split at hs
    · cases hs
      exact fun ls H locs hL hA hS => lv_l2i hx hb hd rfl (k ls H locs hL hA hS)
    · cases hs
  case dup =>
    simp [aLn] at hn; subst hn
    split at hs
    · split at hs
      · rename_i hv
        cases hs
        exact fun ls H locs hL hA hS => lv_dup hx hb hd (by rw [aTv_cat]; exact hv) (k ls H locs hL hA hS)
      · cases hs
    · cases hs
  case pop =>
    simp [aLn] at hn; subst hn
    split at hs
    · split at hs
      · rename_i hv
        cases hs
        exact fun ls H locs hL hA hS => lv_pop hx hb hd (by rw [aTv_cat]; exact hv) (k ls H locs hL hA hS)
      · cases hs
    · cases hs
  case dup2 =>
    simp [aLn] at hn; subst hn
    unfold aDup2 at hs
    split at hs
    · cases hs
      exact fun ls H locs hL hA hS => lv_dup2_2 hx hb hd rfl (k ls H locs hL hA hS)
    · split at hs
      · rename_i hv
        cases hs
        exact fun ls H locs hL hA hS => lv_dup2_11 hx hb hd (by rw [aTv_cat]; exact hv.1) (by rw [aTv_cat]; exact hv.2) (k ls H locs hL hA hS)
      · cases hs
    · cases hs
  case ifCond cnd off =>
    simp [aLn] at hn; subst hn
    split at hs
    · rename_i x t
      obtain ⟨tg, ht, rfl⟩ := aJ_inv hs
      intro ls H locs hL hA hS
      have kk := fun pc' (ee : pc' = if aC2 cnd x 0 = true then tg else pc + 3) => (ee ▸ k ls H locs hL hA hS : W p l e R s m args below meth c H locs (h.1.length - b0) (h.2.1 - b1) Q (F0 m pc' ls (t.map (aTv E))))
      cases cnd <;> simp only [aC2, decide_eq_true_eq, Bool.not_eq_true', decide_eq_false_iff_not] at kk
      · exact lv_if_eq hx hb hd ht (fun z => kk _ (by rw [if_pos z])) (fun z => kk _ (by rw [if_neg z]))
      · exact lv_if_ne hx hb hd ht (fun z => kk _ (by rw [if_pos z])) (fun z => kk _ (by rw [if_neg (fun q => q z)]))
      · exact lv_if_lt hx hb hd ht (fun z => kk _ (by rw [if_pos z])) (fun z => kk _ (by rw [if_neg z]))
      · exact lv_if_ge hx hb hd ht (fun z => kk _ (by rw [if_pos z])) (fun z => kk _ (by rw [if_neg z]))
      · exact lv_if_gt hx hb hd ht (fun z => kk _ (by rw [if_pos z])) (fun z => kk _ (by rw [if_neg z]))
      · exact lv_if_le hx hb hd ht (fun z => kk _ (by rw [if_pos z])) (fun z => kk _ (by rw [if_neg z]))
    · cases hs
  case if_icmp cnd off =>
    simp [aLn] at hn; subst hn
    split at hs
    · rename_i y x t
      obtain ⟨tg, ht, rfl⟩ := aJ_inv hs
      intro ls H locs hL hA hS
      have kk := fun pc' (ee : pc' = if aC2 cnd x y = true then tg else pc + 3) => (ee ▸ k ls H locs hL hA hS : W p l e R s m args below meth c H locs (h.1.length - b0) (h.2.1 - b1) Q (F0 m pc' ls (t.map (aTv E))))
      cases cnd <;> simp only [aC2, decide_eq_true_eq, Bool.not_eq_true', decide_eq_false_iff_not] at kk
      · exact lv_icmp_eq hx hb hd ht (fun z => kk _ (by rw [if_pos z])) (fun z => kk _ (by rw [if_neg z]))
      · exact lv_icmp_ne hx hb hd ht (fun z => kk _ (by rw [if_pos z])) (fun z => kk _ (by rw [if_neg (fun q => q z)]))
      · exact lv_icmp_lt hx hb hd ht (fun z => kk _ (by rw [if_pos z])) (fun z => kk _ (by rw [if_neg z]))
      · exact lv_icmp_ge hx hb hd ht (fun z => kk _ (by rw [if_pos z])) (fun z => kk _ (by rw [if_neg z]))
      · exact lv_icmp_gt hx hb hd ht (fun z => kk _ (by rw [if_pos z])) (fun z => kk _ (by rw [if_neg z]))
      · exact lv_icmp_le hx hb hd ht (fun z => kk _ (by rw [if_pos z])) (fun z => kk _ (by rw [if_neg z]))
    · cases hs
  case ifnull off =>
    simp [aLn] at hn; subst hn
    split at hs
    · cases hs
      exact fun ls H locs hL hA hS => lv_ifnull hx hb hd (k ls H locs hL hA hS)
    · obtain ⟨tg, ht, rfl⟩ := aSw_inv hs
      exact fun ls H locs hL hA hS => lv_ifnullN hx hb hd ht (k ls H locs hL hA hS)
    · cases hs
  case ifnonnull off =>
    simp [aLn] at hn; subst hn
    split at hs
    · obtain ⟨tg, ht, rfl⟩ := aSw_inv hs
      exact fun ls H locs hL hA hS => lv_ifnonnull hx hb hd ht (k ls H locs hL hA hS)
    · cases hs
      exact fun ls H locs hL hA hS => lv_ifnonnullN hx hb hd (k ls H locs hL hA hS)
    · cases hs
  case goto off =>
    simp [aLn] at hn; subst hn
    obtain ⟨tg, ht, rfl⟩ := aSw_inv hs
    exact fun ls H locs hL hA hS => lv_goto hx hb hd ht (k ls H locs hL hA hS)
  case tableswitch dflt lo hi offs =>
    split at hs
    · rename_i x t
      split at hs
      · rename_i hout
        obtain ⟨tg, ht, rfl⟩ := aSw_inv hs
        exact fun ls H locs hL hA hS => lv_tableOut hx hb hd hout ht (k ls H locs hL hA hS)
      · rename_i hin
        split at hs
        · rename_i off hoff
          obtain ⟨tg, ht, rfl⟩ := aSw_inv hs
          exact fun ls H locs hL hA hS => lv_tableIn hx hb hd (fun q => hin (Or.inl q)) (fun q => hin (Or.inr q)) hoff ht (k ls H locs hL hA hS)
        · cases hs
    · cases hs
  case lookupswitch dflt ps =>
    split at hs
    · rename_i x t
      split at hs
      · rename_i hps
        obtain ⟨tg, ht, rfl⟩ := aSw_inv hs
        exact fun ls H locs hL hA hS => lv_lookup hx hb hd hps rfl ht (k ls H locs hL hA hS)
      · cases hs
    · cases hs
end SND
