/-! ===== what must hold of a run of AM so that it ends well ===== -/
/-- the reads and writes of the memory -/
def gi (h : aM) (a k : Nat) : Int32 := h.2.2.1 a k
def gl (h : aM) (a k : Nat) : Int64 := h.2.2.2.1 a k
def gr (h : aM) (a k : Nat) : Option Nat := h.2.2.2.2 a k
/-- GallopDispatchLaw.man: the caught call -/
def aPMg (h : aM) : Prop := (h.1[32]? = some (10, 19) ∧ gr h 32 3 = some 58 ∧ gr h 32 5 = some 79) ∧ (h.1[58]? = some (9, 5) ∧ gr h 58 1 = some 60 ∧ (gi h 58 3).toInt ≤ 6) ∧ (h.1[79]? = some (7, 9) ∧ gr h 79 0 = some 80 ∧ gr h 79 1 = some 81 ∧ gr h 79 2 = some 82 ∧ gr h 79 3 = some 83) ∧
  (h.1[80]? = some (100, 6) ∧ h.1[81]? = some (100, 6) ∧ h.1[82]? = some (100, 6) ∧ h.1[83]? = some (100, 6)) ∧ (h.1[60]? = some (104, 6) ∧ ∀ i, i < 6 → gr h 60 i = some (61 + i) ∧ h.1[61 + i]? = some (100, 4)) ∧ h.1[429]? = some (101, 1)
/-- it throws -/
def aPMt (h : aM) (p q : Int32) : Prop := p < 0 ∨ gi h 58 3 ≤ p ∨ q < 0 ∨ 4 < q
def aPMv (h : aM) (p q : Int32) : Int32 := if q = 0 then gi h 80 p.toNatClampNeg else if q = 1 then gi h 81 p.toNatClampNeg else if q = 2 then gi h 82 p.toNatClampNeg else if q = 3 then gi h (61 + p.toNatClampNeg) 3 else gi h 83 p.toNatClampNeg
/-- the object at 32, the row for the answer at 429; a throw leaves one cell that nobody reads -/
noncomputable def aPM : aPm := fun h as => match as with
  | [.ref x, .int p, .int q, .ref o] => @ite _ (x = 32 ∧ o = 429 ∧ aPMg h) (Classical.propDecidable _) (@ite _ (aPMt h p q) (Classical.propDecidable _) (some (.int 1, aNew h (99, 6))) (some (.int 0, aWl h 429 0 (aPMv h p q).toInt64))) none
  | _ => none
theorem aRun_mono (mi : aMi) (cd : aCd) (pm : aPm) : ∀ (n d k pc : Nat) (lv : aV) (st : List Value) (h : aM) (r : Option Value × aM), aRun mi cd pm n d k pc lv st h = some r → aRun mi cd pm (n + 1) d k pc lv st h = some r
  | 0, _, _, _, _, _, _, _, hr => by simp [aRun] at hr
  | n + 1, d, k, pc, lv, st, h, r, hr => by
    unfold aRun at hr ⊢
    split at hr
    · cases hr
    · rename_i ins len r1 r2 r3 hcd
      split at hr
      · rename_i h1
        rw [if_pos h1]
        exact hr
      · rename_i h1
        rw [if_neg h1]
        split at hr
        · rename_i h2
          rw [if_pos h2]
          split at hr
          · rename_i d' y b mL rt hm
            split at hr
            · rename_i h3
              rw [if_pos h3]
              split at hr
              · rename_i v h1' hr1
                rw [aRun_mono mi cd pm n _ _ _ _ _ _ _ hr1]
                exact aRun_mono mi cd pm n _ _ _ _ _ _ _ hr
              · cases hr
            · cases hr
          · cases hr
        · rename_i h2
          rw [if_neg h2]
          split at hr
          · rename_i h3
            rw [if_pos h3]
            split at hr
            · rename_i h4
              rw [if_pos h4]
              split at hr
              · rename_i v h1' hr1
                exact aRun_mono mi cd pm n _ _ _ _ _ _ _ hr
              · cases hr
            · cases hr
          · rename_i h3
            rw [if_neg h3]
            split at hr
            · rename_i o ho
              exact aRun_mono mi cd pm n _ _ _ _ _ _ _ hr
            · cases hr
theorem aRun_le {mi : aMi} {cd : aCd} {pm : aPm} {n m d k pc : Nat} {lv : aV} {st : List Value} {h : aM} {r : Option Value × aM} (hr : aRun mi cd pm n d k pc lv st h = some r) (hm : n ≤ m) : aRun mi cd pm m d k pc lv st h = some r := by
  induction m with
  | zero =>
    have : n = 0 := by omega
    rw [← this]
    exact hr
  | succ m ih =>
    by_cases e : n = m + 1
    · rw [← e]
      exact hr
    · exact aRun_mono mi cd pm m d k pc lv st h r (ih (by omega))
/-- from here the method ends, and its answer and the memory then are as Q says -/
def AW (d k pc : Nat) (lv : aV) (st : List Value) (h : aM) (Q : Option Value → aM → Prop) : Prop := ∃ n v h', aRun aMI aCD aPM n d k pc lv st h = some (v, h') ∧ Q v h'
theorem AW.mono {d k pc : Nat} {lv : aV} {st : List Value} {h : aM} {Q Q' : Option Value → aM → Prop} (w : AW d k pc lv st h Q) (hq : ∀ v h', Q v h' → Q' v h') : AW d k pc lv st h Q' := by
  obtain ⟨n, v, h', h1, h2⟩ := w
  exact ⟨n, v, h', h1, hq v h' h2⟩
/-- an instruction that is no call and no return -/
theorem AW_s {d k pc : Nat} {lv : aV} {st : List Value} {h : aM} {Q : Option Value → aM → Prop} {ins : Instr} {n r1 r2 r3 : Nat} (hc : aCD k pc = some (ins, n, r1, r2, r3)) (h1 : aIsRet ins = false) (h2 : aIsCall ins r1 = false) (h3 : aIsPm ins r1 = false) :
    AW d k pc lv st h Q ↔ ∃ o, aStep ins n r1 r2 r3 pc lv st h = some o ∧ AW d k o.1 o.2.1 o.2.2.1 o.2.2.2 Q := by
  constructor
  · rintro ⟨f, v, h', hr, hq⟩
    cases f with
    | zero => simp [aRun] at hr
    | succ f =>
      unfold aRun at hr
      simp only [hc, h1, h2, h3, Bool.false_eq_true, if_false] at hr
      split at hr
      · rename_i o ho
        exact ⟨o, ho, f, v, h', hr, hq⟩
      · cases hr
  · rintro ⟨o, ho, f, v, h', hr, hq⟩
    refine ⟨f + 1, v, h', ?_, hq⟩
    unfold aRun
    simp only [hc, h1, h2, h3, Bool.false_eq_true, if_false, ho]
    exact hr
/-- a return -/
theorem AW_r {d k pc : Nat} {lv : aV} {st : List Value} {h : aM} {Q : Option Value → aM → Prop} {ins : Instr} {n r1 r2 r3 : Nat} {y : MethodName} {b : ByteArray} {mL : Nat} {rt : Option FieldType} (hc : aCD k pc = some (ins, n, r1, r2, r3)) (h1 : aIsRet ins = true) (hm : aMI k = some (y, b, mL, rt)) :
    AW d k pc lv st h Q ↔ ∃ v, aRetV ins rt st = some v ∧ Q v h := by
  constructor
  · rintro ⟨f, v, h', hr, hq⟩
    cases f with
    | zero => simp [aRun] at hr
    | succ f =>
      unfold aRun at hr
      simp only [hc, h1, if_true, hm] at hr
      split at hr
      · rename_i v' hv
        cases hr
        exact ⟨_, hv, hq⟩
      · cases hr
  · rintro ⟨v, hv, hq⟩
    refine ⟨1, v, h, ?_, hq⟩
    unfold aRun
    simp only [hc, h1, if_true, hm, hv]
/-- a call: the callee's run, then the rest -/
theorem AW_c {d k pc : Nat} {lv : aV} {st : List Value} {h : aM} {Q : Option Value → aM → Prop} {ins : Instr} {n r1 r2 r3 : Nat} {y : MethodName} {b : ByteArray} {mL : Nat} {rt : Option FieldType} (hc : aCD k pc = some (ins, n, r1, r2, r3)) (h1 : aIsRet ins = false) (h2 : aIsCall ins r1 = true) (hm : aMI r1 = some (y, b, mL, rt)) :
    AW (d + 1) k pc lv st h Q ↔ aCallOk ins r2 r3 mL st h = true ∧ AW d r1 0 (aArg mL (st.take (aNum ins r2)).reverse) [] h (fun v h' => AW (d + 1) k (pc + n) lv (v.toList ++ st.drop (aNum ins r2)) h' Q) := by
  constructor
  · rintro ⟨f, v, h', hr, hq⟩
    cases f with
    | zero => simp [aRun] at hr
    | succ f =>
      unfold aRun at hr
      simp only [hc, h1, h2, hm, if_true, Bool.false_eq_true, if_false] at hr
      split at hr
      · rename_i hok
        split at hr
        · rename_i v1 h1' hr1
          exact ⟨hok, f, v1, h1', hr1, f, v, h', hr, hq⟩
        · cases hr
      · cases hr
  · rintro ⟨hok, f1, v1, h1', hr1, f2, v, h', hr, hq⟩
    refine ⟨max f1 f2 + 1, v, h', ?_, hq⟩
    unfold aRun
    simp only [hc, h1, h2, hm, if_true, Bool.false_eq_true, if_false, hok]
    rw [aRun_le hr1 (Nat.le_max_left _ _)]
    exact aRun_le hr (Nat.le_max_right _ _)
