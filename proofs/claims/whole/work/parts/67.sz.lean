-- deps: 66.days
/-! ===== what runs leave as it is: sizes, and longs ===== -/
def okI (f : Bool) (ins : Instr) (r3 : Nat) : Bool := match ins with
  | .new _ => false
  | .newarray _ => false
  | .anewarray _ => false
  | .multianewarray _ _ => false
  | .lastore => !f
  | .putfield _ => !f || !decide (r3 = 1)
  | _ => true
def Kp (f : Bool) (h h' : aM) : Prop := h'.1 = h.1 ∧ h'.2.1 = h.2.1 ∧ (f = true → ∀ a k, gl h' a k = gl h a k)
theorem Kp.refl {f : Bool} {h : aM} : Kp f h h := ⟨rfl, rfl, fun _ _ _ => rfl⟩
theorem Kp.trans {f : Bool} {h h' h'' : aM} (a : Kp f h h') (b : Kp f h' h'') : Kp f h h'' := ⟨b.1.trans a.1, b.2.1.trans a.2.1, fun e x k => (b.2.2 e x k).trans (a.2.2 e x k)⟩
theorem Kp.wi {f : Bool} {h : aM} {a k : Nat} {x : Int32} : Kp f h (aWi h a k x) := ⟨rfl, rfl, fun _ _ _ => rfl⟩
theorem Kp.wr {f : Bool} {h : aM} {a k : Nat} {x : Option Nat} : Kp f h (aWr h a k x) := ⟨rfl, rfl, fun _ _ _ => rfl⟩
theorem Kp.wl {h : aM} {a k : Nat} {x : Int64} : Kp false h (aWl h a k x) := ⟨rfl, rfl, fun e => by cases e⟩
theorem kp_put {f : Bool} {c k kind q : Nat} {lv : aV} {st : List Value} {h : aM} {o : aO} (hs : aPut c k kind q lv st h = some o) (hk : f = true → ¬ kind = 1) : Kp f h o.2.2.2 := by
  unfold aPut at hs
  split at hs
  · split at hs
    · split at hs
      · cases hs
        exact Kp.wi
      · cases hs
        cases f
        · exact Kp.wl
        · exact absurd rfl (hk rfl)
      · cases hs
        exact Kp.wr
      · cases hs
        exact Kp.wr
      · split at hs
        · cases hs
          exact Kp.wi
        · cases hs
      · cases hs
    · cases hs
  · cases hs
theorem kp_ias {f : Bool} {q : Nat} {lv : aV} {st : List Value} {h : aM} {o : aO} (hs : aIas q lv st h = some o) : Kp f h o.2.2.2 := by
  unfold aIas at hs
  split at hs
  · split at hs
    · cases hs
      exact Kp.wi
    · cases hs
  · cases hs
theorem kp_zas {f : Bool} {q : Nat} {lv : aV} {st : List Value} {h : aM} {o : aO} (hs : aZas q lv st h = some o) : Kp f h o.2.2.2 := by
  unfold aZas at hs
  split at hs
  · split at hs
    · cases hs
      exact Kp.wi
    · cases hs
  · cases hs
theorem kp_las {q : Nat} {lv : aV} {st : List Value} {h : aM} {o : aO} (hs : aLas q lv st h = some o) : Kp false h o.2.2.2 := by
  unfold aLas at hs
  split at hs
  · split at hs
    · cases hs
      exact Kp.wl
    · cases hs
  · cases hs
theorem kp_aas {f : Bool} {c k q : Nat} {lv : aV} {st : List Value} {h : aM} {o : aO} (hs : aAas c k q lv st h = some o) : Kp f h o.2.2.2 := by
  unfold aAas at hs
  split at hs
  · split at hs
    · cases hs
      exact Kp.wr
    · cases hs
  · cases hs
theorem kp_cpy {f : Bool} {q : Nat} {lv : aV} {st : List Value} {h : aM} {o : aO} (hs : aCpy q lv st h = some o) : Kp f h o.2.2.2 := by
  unfold aCpy at hs
  split at hs
  · split at hs
    · split at hs
      · cases hs
        exact ⟨rfl, rfl, fun _ _ _ => rfl⟩
      · cases hs
    · cases hs
  · cases hs
theorem kp_step {f : Bool} {ins : Instr} {n r1 r2 r3 pc : Nat} {lv : aV} {st : List Value} {h : aM} {o : aO} (hs : aStep ins n r1 r2 r3 pc lv st h = some o) (hk : okI f ins r3 = true) : Kp f h o.2.2.2 := by
  unfold aStep at hs
  split at hs
  all_goals first
    | (cases hs; exact Kp.refl)
    | (cases hk; done)
    | exact kp_ias hs
    | exact kp_zas hs
    | exact kp_aas hs
    | exact kp_put hs (fun e q => by rw [e, q] at hk; cases hk)
    | (cases f
       · exact kp_las hs
       · cases hk)
    | (simp only [aLdI, aLdL, aLdA, aSvI, aSvL, aSvA, aIop, aLop, aLsh, aIun, aSw, aDup2, aGet, aIal, aLal, aAal, aLen, aJ] at hs
       repeat' split at hs
       all_goals first
         | (cases hs; exact Kp.refl)
         | (cases hs; done))
    | (split at hs
       · exact kp_cpy hs
       · cases hs)
    | (repeat' split at hs
       all_goals first
         | (cases hs; exact Kp.refl)
         | (cases hs; done)
         | (simp only [aSw, aJ] at hs
            repeat' split at hs
            all_goals first
              | (cases hs; exact Kp.refl)
              | (cases hs; done)))
/-- a method's code and the calls in it are of a set -/
def setC (f : Bool) (sB : Nat → Bool) (l : List (Option aI)) : Bool := l.all (fun o => match o with
  | none => true
  | some (ins, _, r1, _, r3) => okI f ins r3 && (!aIsCall ins r1 || sB r1) && !aIsPm ins r1)
def setB (f : Bool) (sB : Nat → Bool) : List (List (Option aI)) → Nat → Bool
  | [], _ => true
  | l :: ls, k => (!sB k || setC f sB l) && setB f sB ls (k + 1)
theorem setB_at {f : Bool} {sB : Nat → Bool} : ∀ {ls : List (List (Option aI))} {j k : Nat} {l : List (Option aI)}, setB f sB ls j = true → ls[k]? = some l → sB (j + k) = true → setC f sB l = true
  | [], _, _, _, _, h, _ => by cases h
  | l :: ls, j, 0, _, h, e, s => by
    cases e
    rw [setB, Bool.and_eq_true, Bool.or_eq_true] at h
    rcases h.1 with q | q
    · rw [show j + 0 = j from rfl] at s
      rw [s] at q
      cases q
    · exact q
  | l :: ls, j, k + 1, _, h, e, s => by
    rw [setB, Bool.and_eq_true] at h
    exact setB_at h.2 (by simpa using e) (by rw [show j + 1 + k = j + (k + 1) by omega]; exact s)
theorem set_cd {f : Bool} {sB : Nat → Bool} (hb : setB f sB aCode 0 = true) (h3 : sB 300 = false) {k pc n r1 r2 r3 : Nat} {ins : Instr} (hk : sB k = true) (hc : aCD k pc = some (ins, n, r1, r2, r3)) : okI f ins r3 = true ∧ (aIsCall ins r1 = true → sB r1 = true) ∧ aIsPm ins r1 = false := by
  unfold aCD at hc
  have hk3 : ¬ k = 300 := by
    rintro rfl
    rw [h3] at hk
    cases hk
  rw [if_neg hk3] at hc
  split at hc
  · next l hl =>
    have hs := setB_at hb hl (by rw [Nat.zero_add]; exact hk)
    split at hc
    · next i hi =>
      cases hc
      unfold setC at hs
      rw [List.all_eq_true] at hs
      have := hs _ (List.mem_of_getElem? hi)
      simp only [Bool.and_eq_true, Bool.or_eq_true, Bool.not_eq_true'] at this
      obtain ⟨⟨q1, q2⟩, q3⟩ := this
      refine ⟨q1, fun e => ?_, q3⟩
      rcases q2 with q2 | q2
      · rw [e] at q2
        cases q2
      · exact q2
    · cases hc
  · cases hc
theorem kp_run {f : Bool} {sB : Nat → Bool} (hb : setB f sB aCode 0 = true) (h3 : sB 300 = false) : ∀ (n d k pc : Nat) (lv : aV) (st : List Value) (h : aM) (v : Option Value) (h' : aM), sB k = true → aRun aMI aCD aPM n d k pc lv st h = some (v, h') → Kp f h h'
  | 0, _, _, _, _, _, _, _, _, _, hr => by simp [aRun] at hr
  | n + 1, d, k, pc, lv, st, h, v, h', hk, hr => by
    unfold aRun at hr
    split at hr
    · cases hr
    · rename_i ins len r1 r2 r3 hcd
      obtain ⟨c1, c2, c3⟩ := set_cd hb h3 hk hcd
      split at hr
      · split at hr
        · split at hr
          · cases hr
            exact Kp.refl
          · cases hr
        · cases hr
      · split at hr
        · rename_i h2
          split at hr
          · split at hr
            · split at hr
              · rename_i v1 h1 hr1
                exact (kp_run hb h3 n _ _ _ _ _ _ _ _ (c2 h2) hr1).trans (kp_run hb h3 n _ _ _ _ _ _ _ _ hk hr)
              · cases hr
            · cases hr
          · cases hr
        · rw [c3] at hr
          rw [if_neg (by decide)] at hr
          split at hr
          · rename_i o ho
            exact (kp_step ho c1).trans (kp_run hb h3 n _ _ _ _ _ _ _ _ hk hr)
          · cases hr
theorem AW.kp {f : Bool} {sB : Nat → Bool} (hb : setB f sB aCode 0 = true) (h3 : sB 300 = false) {d k pc : Nat} {lv : aV} {st : List Value} {h : aM} {Q : Option Value → aM → Prop} (hk : sB k = true) (w : AW d k pc lv st h Q) : AW d k pc lv st h (fun v h' => Q v h' ∧ Kp f h h') := by
  obtain ⟨n, v, h', hr, hq⟩ := w
  exact ⟨n, v, h', hr, hq, kp_run hb h3 n d k pc lv st h v h' hk hr⟩
/-- all methods but constructors and the law: nothing is made -/
def sA (k : Nat) : Bool := !(k == 0 || k == 5 || k == 23 || k == 28 || k == 39 || k == 53 || k == 57 || k == 67 || k == 70 || k == 84 || k == 88 || k == 163 || k == 300)
theorem sA_ok : setB false sA aCode 0 = true := by decide +kernel
/-- keep and passDay write no long -/
def sL (k : Nat) : Bool := k == 190 || k == 191 || k == 192 || k == 193 || k == 206 || k == 210 || k == 211 || k == 212 || k == 213 || k == 214 || k == 222 || k == 230 || k == 277 || k == 279 || k == 280 || k == 281 || k == 282 || k == 283
theorem sL_ok : setB true sL aCode 0 = true := by decide +kernel
