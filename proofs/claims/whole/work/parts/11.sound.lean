/-! ===== AM's runs are the JVM's ===== -/
section SOUND
variable {p : Program} {l : Launch} {e : Env} {R : Room} {s : State} {m : MethodId} {args : Array Value} {below : List Frame} {meth : Method} {c : Code} {Q : State → Prop}
variable {E : aE} {O : aOl} {b0 b1 : Nat}
theorem aSnd {mi : aMi} {y : MethodName} {b : ByteArray} {mL : Nat} {ins : Instr} {n r1 r2 r3 pc : Nat} {lv : aV} {st : List Value} {h : aM} {o : aO} (hx : p.tables.exec = Jvm.exec) (hb : c.code = b) (hml : c.maxLocals = mL) (hll : lv.length = mL) (hts : ∀ w ∈ aWs, w.before args s = true) (hown : s.vm.findClass y.cls = some m.cls) (hnm : meth.name = y.name) (hK : aKS E O s)
    (hd : decode b pc = .ok (ins, n)) (hn : n = aLn ins ∨ (∃ a b c d, ins = .tableswitch a b c d) ∨ ∃ a b, ins = .lookupswitch a b) (hv : aVal mi y ins r1 r2 r3) (hnc : aIsCall ins r1 = false) (hnp : aIsPm ins r1 = false) (hs : aStep ins n r1 r2 r3 pc lv st h = some o)
    (hb0 : b0 ≤ h.1.length) (hb1 : b1 ≤ h.2.1) (hc : o.2.2.2.1.length - b0 ≤ R.cells) (hsl : o.2.2.2.2.1 - b1 ≤ R.slots) (hf : 1 ≤ R.frames) (hlo : 100 ≤ R.locals)
    (k : aG p l e R s m args below meth c Q E O b0 b1 o.1 o.2.1 o.2.2.1 o.2.2.2) : aG p l e R s m args below meth c Q E O b0 b1 pc lv st h := by
  by_cases hp : aPure ins = true
  · exact aSnd1 hx hb hd hn hp hs k
  · cases ins <;> simp only [aPure, not_true_eq_false] at hp
    case ldc i => simp [aLn] at hn; subst hn; exact sn_ldc (n := 2) hx hb hts hown hK hd hv hs k
    case ldc_w i => simp [aLn] at hn; subst hn; exact sn_ldcw hx hb hts hown hd hv hs k
    case ldc2_w i => simp [aLn] at hn; subst hn; exact sn_ldc2 hx hb hts hown hd hv hs k
    case getfield i => simp [aLn] at hn; subst hn; exact sn_get (n := 3) hx hb hts hown hK hd hv hs k
    case putfield i =>
      simp [aLn] at hn; subst hn
      obtain ⟨r, v1, v2, v3, v4⟩ := hv
      exact sn_put hx hb hts hown hK hd ⟨r, v1, v2, v3, v4.imp id (fun z => ⟨hnm.trans z.1, z.2⟩)⟩ hs k
    case getstatic i => simp [aLn] at hn; subst hn; exact sn_gets hx hb hts hown hK hd hv hs k
    case iaload => simp [aLn] at hn; subst hn; exact sn_iald hx hb hK hd hs k
    case baload => simp [aLn] at hn; subst hn; exact sn_bald hx hb hK hd hs k
    case laload => simp [aLn] at hn; subst hn; exact sn_lald hx hb hK hd hs k
    case aaload => simp [aLn] at hn; subst hn; exact sn_aald hx hb hK hd hs k
    case iastore => simp [aLn] at hn; subst hn; exact sn_iast hx hb hK hd hs k
    case bastore => simp [aLn] at hn; subst hn; exact sn_zast hx hb hK hd hs k
    case lastore => simp [aLn] at hn; subst hn; exact sn_last hx hb hK hd hs k
    case aastore => simp [aLn] at hn; subst hn; exact sn_aast hx hb hK hd hv hs k
    case arraylength => simp [aLn] at hn; subst hn; exact sn_len hx hb hK hd hs k
    case new i => simp [aLn] at hn; subst hn; exact sn_new hx hb hts hown hK hd hv hs hb0 hb1 hc hsl k
    case newarray ty => simp [aLn] at hn; subst hn; exact sn_na hx hb hts hK hd hv.1 hv.2 hs hb0 hb1 hc hsl k
    case anewarray i => simp [aLn] at hn; subst hn; exact sn_an hx hb hts hown hK hd hv hs hb0 hb1 hc hsl k
    case multianewarray i d => simp [aLn] at hn; subst hn; exact sn_mna hx hb hts hown hK hd hv.1 hv.2 hs hb0 hb1 hc hsl k
    case invokespecial i =>
      simp [aLn] at hn; subst hn
      have hge : ¬ r1 < 300 := by simpa [aIsCall] using hnc
      rcases hv with v | v
      · exact sn_obj hx hb hml hll hts hown hd v.2 hf (by omega) hs k
      · exact absurd v.1 hge
    case invokestatic i =>
      simp [aLn] at hn; subst hn
      have hge : ¬ r1 < 300 := by simpa [aIsCall] using hnc
      have hne : ¬ r1 = 1002 := by simpa [aIsPm] using hnp
      rcases hv with v | v | v
      · exact sn_cpy hx hb hml hll hts hown hK hd v.2 hf (by have : nativeFrameWords "java/lang/System" "arraycopy" 5 ≤ 60 := by decide +kernel
                                                             omega) hs k
      · exact absurd v.1 hne
      · exact absurd v.1 hge
    all_goals (simp only [aStep] at hs; cases hs)
theorem aWs_init {z : MethodName} {b : ByteArray} {mL : Nat} {rt : Option FieldType} {mi : aMi} (hM : aMOk mi) {k : Nat} (hk3 : k < 300) (h : mi k = some (z, b, mL, rt)) : GoodIn aWs (Cond.code z b mL rt :: aWs) := fun w hw => (List.mem_cons.mp hw).elim (fun q => by rw [q]; exact aWs_good _ (hM k hk3 z b mL rt h).1) (fun q => aWs_good w q)
theorem aRetV_inv {ins : Instr} {rt : Option FieldType} {st : List Value} {v : Option Value} (h : aRetV ins rt st = some v) : st = v.toList ∧ ((ins = .ireturn ∧ ∃ t x, rt = some t ∧ v = some (.int x) ∧ narrow t (.int x) = .int x) ∨ (ins = .lreturn ∧ rt = some .long ∧ ∃ x, v = some (.long x)) ∨ (ins = .areturn ∧ (∃ C, rt = some (.object C)) ∧ (v = some .null ∨ ∃ a, v = some (.ref a))) ∨ (ins = .return_ ∧ rt = none ∧ v = none)) := by
  unfold aRetV at h
  split at h
  · rename_i t x
    split at h
    · rename_i hn
      cases h
      exact ⟨rfl, Or.inl ⟨rfl, t, x, rfl, rfl, hn⟩⟩
    · cases h
  · cases h
    exact ⟨rfl, Or.inr (Or.inl ⟨rfl, rfl, _, rfl⟩)⟩
  · cases h
    exact ⟨rfl, Or.inr (Or.inr (Or.inl ⟨rfl, ⟨_, rfl⟩, Or.inr ⟨_, rfl⟩⟩))⟩
  · cases h
    exact ⟨rfl, Or.inr (Or.inr (Or.inl ⟨rfl, ⟨_, rfl⟩, Or.inl rfl⟩))⟩
  · cases h
    exact ⟨rfl, Or.inr (Or.inr (Or.inr ⟨rfl, rfl, rfl⟩))⟩
  · cases h
/-- what is left to show at a return -/
def aFin (p : Program) (l : Launch) (e : Env) (R : Room) (s : State) (m : MethodId) (args : Array Value) (below : List Frame) (meth : Method) (c : Code) (Q : State → Prop) (E : aE) (O : aOl) (b0 b1 : Nat) (b : ByteArray) (rt : Option FieldType) (v : Option Value) (h' : aM) : Prop :=
  ∀ (pc : Nat) (ls : Array Slot) (H : Heap) (locs : List Loc) (ins : Instr), decode b pc = .ok (ins, 1) → aRetV ins rt v.toList = some v → aR E O h' H → va_S (aNw E) s.heap H locs → W p l e R s m args below meth c H locs (h'.1.length - b0) (h'.2.1 - b1) Q (F0 m pc ls (v.toList.map (aTv E)))
theorem aFin_met {b : ByteArray} {rt : Option FieldType} {v : Option Value} {h' : aM} (hx : p.tables.exec = Jvm.exec) (hb : c.code = b) (hr : meth.sig.returnType = rt) (hlocks : meth.locks = false) : aFin p l e R s m args below meth c (MQ below (fun _ => aQc E O h' v) args s (h'.1.length - b0) (h'.2.1 - b1) (aNw E)) E O b0 b1 b rt v h' := by
  intro pc ls H locs ins hd hv hA hS
  obtain ⟨-, h1⟩ := aRetV_inv hv
  have hq : ∀ t : State, t.heap = H → s.WarmedH t.vm → aQc E O h' v s (.returned (v.map (aTv E))) t := fun t ht _ => ⟨⟨rfl, by rw [ht]; exact hA⟩, hS.F ht⟩
  rcases h1 with ⟨rfl, t, x, rfl, rfl, hn⟩ | ⟨rfl, rfl, x, rfl⟩ | ⟨rfl, ⟨C, rfl⟩, hvv⟩ | ⟨rfl, rfl, rfl⟩
  · exact W.zret hx hb hr hn hq hS.2.2 hd
  · exact W.lret hx hb hr hq hS.2.2 hd
  · rcases hvv with rfl | ⟨a, rfl⟩
    · exact W.aret hx hb hr (Or.inl ⟨C, rfl⟩) (Or.inl rfl) hq hS.2.2 hd
    · exact W.aret hx hb hr (Or.inl ⟨C, rfl⟩) (Or.inr ⟨_, rfl⟩) hq hS.2.2 hd
  · exact W.vret hx hb hr hq hS.2.2 hd
end SOUND
