/-! ===== the forms of AM's steps ===== -/
def sh (h : aM) (a : Nat) : Option (Nat × Nat) := h.1[a]?
/-- a long that reached into a place that is written is gone -/
def kl (v : Option Value) : Option Value := match v with
  | some (.long _) => none
  | some (.double _) => none
  | v => v
theorem kl_i (x : Int32) : kl (some (.int x)) = some (.int x) := rfl
theorem kl_r (x : Nat) : kl (some (.ref x)) = some (.ref x) := rfl
theorem kl_n : kl (some .null) = some .null := rfl
theorem kl_0 : kl none = none := rfl
theorem kl_l (x : Int64) : kl (some (.long x)) = none := rfl
/-- words on the stack -/
def cs : List Value → Nat
  | [] => 0
  | v :: t => v.category + cs t
theorem cs_0 : cs [] = 0 := rfl
theorem cs_i (x : Int32) (t : List Value) : cs (.int x :: t) = 1 + cs t := rfl
theorem cs_r (x : Nat) (t : List Value) : cs (.ref x :: t) = 1 + cs t := rfl
theorem cs_n (t : List Value) : cs (.null :: t) = 1 + cs t := rfl
theorem cs_l (x : Int64) (t : List Value) : cs (.long x :: t) = 2 + cs t := rfl
theorem cs_sum (t : List Value) : (t.map fun v => v.category).sum = cs t := by
  induction t with
  | nil => rfl
  | cons v t ih => simp [cs, ih]
/-- a place within a row of the kind t -/
def inA (h : aM) (a t : Nat) (i : Int32) : Prop := ∃ n, sh h a = some (t, n) ∧ vp_in i n
theorem aArr_iff {h : aM} {a : Nat} {i : Int32} {t : Nat} : aArr h a i t t = true ↔ inA h a t i := by
  constructor
  · intro hs
    obtain ⟨⟨t', n⟩, h1, h2, h3⟩ := aArr_inv hs
    have h2 : t' = t := by simpa using h2
    subst h2
    exact ⟨n, h1, h3⟩
  · rintro ⟨n, h1, h2⟩
    unfold aArr
    have h1' : h.1[a]? = some (t, n) := h1
    rw [h1']
    have h3 : ¬ i < 0 := fun q => h2 (Or.inl q)
    have h4 : ¬ n ≤ i.toNatClampNeg := fun q => h2 (Or.inr q)
    simp [h3, h4]
theorem aArr_iff2 {h : aM} {a : Nat} {i : Int32} {t t2 : Nat} : aArr h a i t t2 = true ↔ inA h a t i ∨ inA h a t2 i := by
  constructor
  · intro hs
    obtain ⟨⟨t', n⟩, h1, h2, h3⟩ := aArr_inv hs
    rcases h2 with h2 | h2
    · exact Or.inl ⟨n, by rw [← h2]; exact h1, h3⟩
    · exact Or.inr ⟨n, by rw [← h2]; exact h1, h3⟩
  · rintro (⟨n, h1, h2⟩ | ⟨n, h1, h2⟩) <;>
    (unfold aArr
     have h1' : h.1[a]? = _ := h1
     rw [h1']
     have h3 : ¬ i < 0 := fun q => h2 (Or.inl q)
     have h4 : ¬ n ≤ i.toNatClampNeg := fun q => h2 (Or.inr q)
     simp [h3, h4])
section FORMS
variable {d k pc pc' : Nat} {lv lv' : aV} {st st' : List Value} {h h' : aM} {Q : Option Value → aM → Prop} {ins : Instr} {n r1 r2 r3 : Nat}
theorem w_st (hc : aCD k pc = some (ins, n, r1, r2, r3)) (h1 : aIsRet ins = false) (h2 : aIsCall ins r1 = false) (h3 : aIsPm ins r1 = false) (hs : aStep ins n r1 r2 r3 pc lv st h = some (pc', lv', st', h')) : AW d k pc lv st h Q ↔ AW d k pc' lv' st' h' Q := by
  rw [AW_s hc h1 h2 h3, hs]
  exact ⟨fun ⟨o, e, w⟩ => by cases e; exact w, fun w => ⟨_, rfl, w⟩⟩
theorem w_if {c c' : Prop} [Decidable c] [Decidable c'] {a b : Nat} (hc : aCD k pc = some (ins, n, r1, r2, r3)) (h1 : aIsRet ins = false) (h2 : aIsCall ins r1 = false) (h3 : aIsPm ins r1 = false) (hs : aStep ins n r1 r2 r3 pc lv st h = some (if c then a else b, lv', st', h')) (hi : c ↔ c') : AW d k pc lv st h Q ↔ if c' then AW d k a lv' st' h' Q else AW d k b lv' st' h' Q := by
  rw [w_st hc h1 h2 h3 hs]
  by_cases hcc : c
  · rw [if_pos hcc, if_pos (hi.mp hcc)]
  · rw [if_neg hcc, if_neg (fun q => hcc (hi.mpr q))]
theorem w_ite {c c' : Prop} [Decidable c] (hc : aCD k pc = some (ins, n, r1, r2, r3)) (h1 : aIsRet ins = false) (h2 : aIsCall ins r1 = false) (h3 : aIsPm ins r1 = false) (hs : aStep ins n r1 r2 r3 pc lv st h = if c then some (pc', lv', st', h') else none) (hi : c ↔ c') : AW d k pc lv st h Q ↔ c' ∧ AW d k pc' lv' st' h' Q := by
  rw [AW_s hc h1 h2 h3, hs]
  constructor
  · rintro ⟨o, e, w⟩
    split at e
    · rename_i hcc
      cases e
      exact ⟨hi.mp hcc, w⟩
    · cases e
  · rintro ⟨hcc, w⟩
    rw [if_pos (hi.mpr hcc)]
    exact ⟨_, rfl, w⟩
/-- a return of an int, with what the type keeps of it -/
theorem w_ri {y : MethodName} {b : ByteArray} {mL : Nat} {x : Int32} (hc : aCD k pc = some (.ireturn, n, r1, r2, r3)) (hm : aMI k = some (y, b, mL, some .int)) : AW d k pc lv [.int x] h Q ↔ Q (some (.int x)) h := by
  rw [AW_r hc rfl hm]
  simp [aRetV, narrow]
theorem w_rz {y : MethodName} {b : ByteArray} {mL : Nat} {x : Int32} {t : FieldType} (hc : aCD k pc = some (.ireturn, n, r1, r2, r3)) (hm : aMI k = some (y, b, mL, some t)) : AW d k pc lv [.int x] h Q ↔ narrow t (.int x) = .int x ∧ Q (some (.int x)) h := by
  rw [AW_r hc rfl hm]
  simp only [aRetV]
  constructor
  · rintro ⟨v, e, q⟩
    split at e
    · rename_i hn
      cases e
      exact ⟨hn, q⟩
    · cases e
  · rintro ⟨hn, q⟩
    rw [if_pos hn]
    exact ⟨_, rfl, q⟩
theorem w_rl {y : MethodName} {b : ByteArray} {mL : Nat} {x : Int64} (hc : aCD k pc = some (.lreturn, n, r1, r2, r3)) (hm : aMI k = some (y, b, mL, some .long)) : AW d k pc lv [.long x] h Q ↔ Q (some (.long x)) h := by
  rw [AW_r hc rfl hm]
  simp [aRetV]
theorem w_ra {y : MethodName} {b : ByteArray} {mL : Nat} {C : String} {x : Option Nat} (hc : aCD k pc = some (.areturn, n, r1, r2, r3)) (hm : aMI k = some (y, b, mL, some (.object C))) : AW d k pc lv [aRf x] h Q ↔ Q (some (aRf x)) h := by
  rw [AW_r hc rfl hm]
  cases x <;> simp [aRetV, aRf]
theorem w_rv {y : MethodName} {b : ByteArray} {mL : Nat} (hc : aCD k pc = some (.return_, n, r1, r2, r3)) (hm : aMI k = some (y, b, mL, none)) : AW d k pc lv [] h Q ↔ Q none h := by
  rw [AW_r hc rfl hm]
  simp [aRetV]
/-- calls: as are the arguments in their order -/
theorem w_c {y : MethodName} {b : ByteArray} {mL : Nat} {rt : Option FieldType} {as : List Value} {c' : Prop} (hc : aCD k pc = some (ins, n, r1, r2, r3)) (h1 : aIsRet ins = false) (h2 : aIsCall ins r1 = true) (hm : aMI r1 = some (y, b, mL, rt)) (hst : st' = as.reverse ++ st) (hn : aNum ins r2 = as.length) (hsl : aSlots as ≤ mL) (hr : aRecv ins r3 as h = true ↔ c') (hlv : aArg mL as = lv') (hpc : pc + n = pc') :
    AW (d + 1) k pc lv st' h Q ↔ (c' ∧ cs st ≤ 8) ∧ AW d r1 0 lv' [] h (fun v h' => AW (d + 1) k pc' lv (v.toList ++ st) h' Q) := by
  subst hpc
  rw [AW_c hc h1 h2 hm]
  have e1 : (st'.take (aNum ins r2)).reverse = as := by
    rw [hst, hn, show as.length = as.reverse.length by simp, List.take_left, List.reverse_reverse]
  have e2 : st'.drop (aNum ins r2) = st := by
    rw [hst, hn, show as.length = as.reverse.length by simp, List.drop_left]
  rw [e1, e2, hlv]
  have e3 : aCallOk ins r2 r3 mL st' h = true ↔ c' ∧ cs st ≤ 8 := by
    simp only [aCallOk, Bool.and_eq_true, decide_eq_true_eq, e1, e2, cs_sum]
    constructor
    · rintro ⟨⟨⟨-, q1⟩, -⟩, q2⟩
      exact ⟨hr.mp q2, q1⟩
    · rintro ⟨q1, q2⟩
      refine ⟨⟨⟨?_, q2⟩, hsl⟩, hr.mpr q1⟩
      rw [hn, hst]
      simp
  rw [e3]
theorem rc_v {i r3 N : Nat} {a : Nat} {t : List Value} (hN : aNf r3 = N) : aRecv (.invokevirtual i) r3 (.ref a :: t) h = true ↔ sh h a = some (r3, N) := by
  subst hN
  simp [aRecv, sh]
theorem rc_s {i r3 : Nat} {as : List Value} : aRecv (.invokestatic i) r3 as h = true ↔ True := by simp [aRecv]
theorem rc_i {i r3 : Nat} {a : Nat} {t : List Value} : aRecv (.invokespecial i) r3 (.ref a :: t) h = true ↔ True := by simp [aRecv]
theorem c_get {a c k N : Nat} (hN : aNf c = N) (hk : k < N) : (h.1[a]? = some (c, aNf c) ∧ k < aNf c) ↔ sh h a = some (c, N) := by
  subst hN
  exact ⟨fun q => q.1, fun q => ⟨q, hk⟩⟩
theorem c_put {a c k N : Nat} (hN : aNf c = N) (hk : k < N) : (h.1[a]? = some (c, aNf c) ∧ k < aNf c ∧ aK ≤ a) ↔ (sh h a = some (c, N) ∧ 32 ≤ a) := by
  subst hN
  exact ⟨fun q => ⟨q.1, q.2.2⟩, fun q => ⟨q.1, hk, q.2⟩⟩
theorem c_ald {a t : Nat} {i : Int32} : (aArr h a i t t = true ∧ aK ≤ a) ↔ (inA h a t i ∧ 32 ≤ a) := by
  rw [aArr_iff]
  exact Iff.rfl
theorem c_aal {a t : Nat} {i : Int32} (ht : 104 ≤ t ∧ t < 107) : (aArr h a i t t = true ∧ aK ≤ a ∧ 104 ≤ t ∧ t < 107) ↔ (inA h a t i ∧ 32 ≤ a) := by
  rw [aArr_iff]
  exact ⟨fun q => ⟨q.1, q.2.1⟩, fun q => ⟨q.1, q.2, ht⟩⟩
/-- the length of a row -/
theorem w_len {a : Nat} (hc : aCD k pc = some (.arraylength, n, r1, r2, r3)) (hpc : pc + n = pc') : AW d k pc lv (.ref a :: st) h Q ↔ ∃ t m, sh h a = some (t, m) ∧ (100 ≤ t ∧ t < 107) ∧ AW d k pc' lv (.int (nI m) :: st) h Q := by
  rw [AW_s hc rfl rfl rfl]
  subst hpc
  simp only [aStep, aLen]
  constructor
  · rintro ⟨o, e, w⟩
    split at e
    · rename_i s0 hs0
      split at e
      · rename_i h0
        cases e
        exact ⟨s0.1, s0.2, hs0, h0, w⟩
      · cases e
    · cases e
  · rintro ⟨t, m, hs0, h0, w⟩
    have hs0' : h.1[a]? = some (t, m) := hs0
    rw [hs0']
    simp only [h0, and_self, if_true]
    exact ⟨_, rfl, w⟩
end FORMS
/-! more forms -/
theorem c0_eq {x : Int32} : aC2 .eq x 0 = true ↔ x = 0 := by simp [aC2]
theorem c0_ne {x : Int32} : aC2 .ne x 0 = true ↔ ¬ x = 0 := by simp [aC2]
theorem c0_lt {x : Int32} : aC2 .lt x 0 = true ↔ x < 0 := by simp [aC2]
theorem c0_ge {x : Int32} : aC2 .ge x 0 = true ↔ 0 ≤ x := by simp [aC2]
theorem c0_gt {x : Int32} : aC2 .gt x 0 = true ↔ 0 < x := by simp [aC2]
theorem c0_le {x : Int32} : aC2 .le x 0 = true ↔ x ≤ 0 := by simp [aC2]
theorem c2_eq {x y : Int32} : aC2 .eq x y = true ↔ x = y := by simp [aC2]
theorem c2_ne {x y : Int32} : aC2 .ne x y = true ↔ ¬ x = y := by simp [aC2]
theorem c2_lt {x y : Int32} : aC2 .lt x y = true ↔ x < y := by simp [aC2]
theorem c2_ge {x y : Int32} : aC2 .ge x y = true ↔ y ≤ x := by simp [aC2]
theorem c2_gt {x y : Int32} : aC2 .gt x y = true ↔ y < x := by simp [aC2]
theorem c2_le {x y : Int32} : aC2 .le x y = true ↔ x ≤ y := by simp [aC2]
section FORMS2
variable {d k pc pc' : Nat} {lv lv' : aV} {st st' : List Value} {h h' : aM} {Q : Option Value → aM → Prop} {ins : Instr} {n r1 r2 r3 : Nat}
theorem aSt1_s {i : Nat} {x : Value} {v : Option Value} (hv : lv[i]? = some v) : aSt1 lv (i + 1) x = (lv.set i (kl v)).set (i + 1) (some x) := by
  unfold aSt1 aKill
  simp only [hv]
  congr 1
  have hself : lv.set i v = lv := by
    apply List.ext_getElem?
    intro j
    by_cases hj : j = i
    · subst hj
      rw [List.getElem?_set_self (List.getElem?_eq_some_iff.mp hv).1, hv]
    · rw [List.getElem?_set_ne (Ne.symm hj)]
  cases v with
  | none => exact hself.symm
  | some w => cases w <;> first | rfl | exact hself.symm
theorem w_sv {i : Nat} {x : Value} {v : Option Value} (hc : aCD k pc = some (ins, n, r1, r2, r3)) (h1 : aIsRet ins = false) (h2 : aIsCall ins r1 = false) (h3 : aIsPm ins r1 = false) (hs : aStep ins n r1 r2 r3 pc lv (x :: st) h = if i + 1 < lv.length then some (pc', aSt1 lv (i + 1) x, st, h) else none) (hv : lv[i]? = some v) (hl : i + 1 < lv.length) (hlv : (lv.set i (kl v)).set (i + 1) (some x) = lv') : AW d k pc lv (x :: st) h Q ↔ AW d k pc' lv' st h Q := by
  rw [if_pos hl, aSt1_s hv, hlv] at hs
  exact w_st hc h1 h2 h3 hs
theorem w_in {i : Nat} {z : Int32} {v : Option Value} (hc : aCD k pc = some (ins, n, r1, r2, r3)) (h1 : aIsRet ins = false) (h2 : aIsCall ins r1 = false) (h3 : aIsPm ins r1 = false) (hs : aStep ins n r1 r2 r3 pc lv st h = some (pc', aSt1 lv (i + 1) (.int z), st, h)) (hv : lv[i]? = some v) (hl : i + 1 < lv.length) (hlv : (lv.set i (kl v)).set (i + 1) (some (.int z)) = lv') : AW d k pc lv st h Q ↔ AW d k pc' lv' st h Q := by
  rw [aSt1_s hv, hlv] at hs
  exact w_st hc h1 h2 h3 hs
theorem w_sl {i : Nat} {x : Int64} {v : Option Value} (hc : aCD k pc = some (ins, n, r1, r2, r3)) (h1 : aIsRet ins = false) (h2 : aIsCall ins r1 = false) (h3 : aIsPm ins r1 = false) (hs : aStep ins n r1 r2 r3 pc lv (.long x :: st) h = if i + 1 + 1 < lv.length then some (pc', aSt2 lv (i + 1) (.long x), st, h) else none) (hv : lv[i]? = some v) (hl : i + 1 + 1 < lv.length) (hlv : ((lv.set i (kl v)).set (i + 1) (some (.long x))).set (i + 1 + 1) none = lv') : AW d k pc lv (.long x :: st) h Q ↔ AW d k pc' lv' st h Q := by
  have e : aSt2 lv (i + 1) (.long x) = lv' := by
    rw [← hlv]
    have := aSt1_s (x := .long x) hv
    unfold aSt1 at this
    unfold aSt2
    rw [this]
  rw [if_pos hl, e] at hs
  exact w_st hc h1 h2 h3 hs
theorem w_dv {f : Int32 → Int32 → Int32} {x y : Int32} (hc : aCD k pc = some (ins, n, r1, r2, r3)) (h1 : aIsRet ins = false) (h2 : aIsCall ins r1 = false) (h3 : aIsPm ins r1 = false) (hs : aStep ins n r1 r2 r3 pc lv (.int y :: .int x :: st) h = aIop (fun x y => if y = 0 then none else some (f x y)) pc' lv (.int y :: .int x :: st) h) : AW d k pc lv (.int y :: .int x :: st) h Q ↔ ¬ y = 0 ∧ AW d k pc' lv (.int (f x y) :: st) h Q := by
  rw [AW_s hc h1 h2 h3, hs]
  by_cases hy : y = 0
  · simp [aIop, hy]
  · simp [aIop, hy]
theorem w_dl {f : Int64 → Int64 → Int64} {x y : Int64} (hc : aCD k pc = some (ins, n, r1, r2, r3)) (h1 : aIsRet ins = false) (h2 : aIsCall ins r1 = false) (h3 : aIsPm ins r1 = false) (hs : aStep ins n r1 r2 r3 pc lv (.long y :: .long x :: st) h = aLop (fun x y => if y = 0 then none else some (f x y)) pc' lv (.long y :: .long x :: st) h) : AW d k pc lv (.long y :: .long x :: st) h Q ↔ ¬ y = 0 ∧ AW d k pc' lv (.long (f x y) :: st) h Q := by
  rw [AW_s hc h1 h2 h3, hs]
  by_cases hy : y = 0
  · simp [aLop, hy]
  · simp [aLop, hy]
theorem w_pz {a c kk N : Nat} {x : Int32} (hc : aCD k pc = some (ins, n, r1, r2, r3)) (h1 : aIsRet ins = false) (h2 : aIsCall ins r1 = false) (h3 : aIsPm ins r1 = false) (hs : aStep ins n r1 r2 r3 pc lv (.int x :: .ref a :: st) h = if h.1[a]? = some (c, aNf c) ∧ kk < aNf c ∧ aK ≤ a then (if x = 0 ∨ x = 1 then some (pc', lv, st, aWi h a kk x) else none) else none) (hN : aNf c = N) (hk : kk < N) : AW d k pc lv (.int x :: .ref a :: st) h Q ↔ ((sh h a = some (c, N) ∧ 32 ≤ a) ∧ (x = 0 ∨ x = 1)) ∧ AW d k pc' lv st (aWi h a kk x) Q := by
  rw [AW_s hc h1 h2 h3, hs]
  subst hN
  constructor
  · rintro ⟨o, e, w⟩
    split at e
    · rename_i g1
      split at e
      · rename_i g2
        cases e
        exact ⟨⟨⟨g1.1, g1.2.2⟩, g2⟩, w⟩
      · cases e
    · cases e
  · rintro ⟨⟨⟨g1, g2⟩, g3⟩, w⟩
    rw [if_pos ⟨g1, hk, g2⟩, if_pos g3]
    exact ⟨_, rfl, w⟩
theorem w_td {dflt lo hi : Int} {offs : Array Int} {x : Int32} (hc : aCD k pc = some (.tableswitch dflt lo hi offs, n, r1, r2, r3)) (ht : aTg pc dflt = some pc') (hx : x.toInt < lo ∨ hi < x.toInt) : AW d k pc lv (.int x :: st) h Q ↔ AW d k pc' lv st h Q := by
  refine w_st hc rfl rfl rfl ?_
  simp only [aStep, if_pos hx, aSw, ht]
theorem w_ld {dflt off : Int} {ps : Array (Int × Int)} {x : Int32} (hc : aCD k pc = some (.lookupswitch dflt ps, n, r1, r2, r3)) (hp : ((ps.toList.zip (ps.toList.drop 1)).all (fun (a, next) => a.1 < next.1)) = true) (ho : Op.lookupswitch.offset ps.toList dflt x.toInt = off) (ht : aTg pc off = some pc') : AW d k pc lv (.int x :: st) h Q ↔ AW d k pc' lv st h Q := by
  refine w_st hc rfl rfl rfl ?_
  simp only [aStep, if_pos hp, ho, aSw, ht]
def aCp (h : aM) (a b sp dp m : Nat) : aM := (h.1, h.2.1, aRow h.2.2.1 b (va_cpy (h.2.2.1 a) (h.2.2.1 b) sp dp m), h.2.2.2.1, h.2.2.2.2)
theorem w_cpy {a b : Nat} {sp dp m : Int32} (hc : aCD k pc = some (ins, n, r1, r2, r3)) (h1 : aIsRet ins = false) (h2 : aIsCall ins r1 = false) (h3 : aIsPm ins r1 = false) (hs : aStep ins n r1 r2 r3 pc lv (.int m :: .int dp :: .ref b :: .int sp :: .ref a :: st) h = aCpy pc' lv (.int m :: .int dp :: .ref b :: .int sp :: .ref a :: st) h) :
    AW d k pc lv (.int m :: .int dp :: .ref b :: .int sp :: .ref a :: st) h Q ↔ ∃ la lb, (sh h a = some (100, la) ∧ sh h b = some (100, lb) ∧ ¬ m < 0 ∧ ¬ dp < 0 ∧ ¬ sp < 0 ∧ sp.toNatClampNeg + m.toNatClampNeg ≤ la ∧ dp.toNatClampNeg + m.toNatClampNeg ≤ lb ∧ 32 ≤ b ∧ cs st ≤ 8) ∧ AW d k pc' lv st (aCp h a b sp.toNatClampNeg dp.toNatClampNeg m.toNatClampNeg) Q := by
  rw [AW_s hc h1 h2 h3, hs]
  simp only [aCpy]
  constructor
  · rintro ⟨o, e, w⟩
    split at e
    · rename_i la lb g1 g2
      split at e
      · rename_i g3
        cases e
        obtain ⟨q1, q2, q3, q4, q5, q6, q7⟩ := g3
        exact ⟨la, lb, ⟨g1, g2, q1, q2, q3, q4, q5, q6, by rw [← cs_sum]; exact q7⟩, w⟩
      · cases e
    · cases e
  · rintro ⟨la, lb, ⟨g1, g2, q1, q2, q3, q4, q5, q6, q7⟩, w⟩
    have g1' : h.1[a]? = some (100, la) := g1
    have g2' : h.1[b]? = some (100, lb) := g2
    rw [g1', g2']
    refine ⟨_, if_pos ⟨q1, q2, q3, q4, q5, q6, by rw [cs_sum]; exact q7⟩, w⟩
end FORMS2
