-- deps: 9o.ctor
/-! ===== constructors, by computation: steps and runs ===== -/
def m0 : aM := ([], 0, fun _ _ => 0, fun _ _ => 0, fun _ _ => none)
def cPure (ins : Instr) : Bool := match ins with
  | .aload_n _ => true
  | .bipush _ => true
  | .dup => true
  | .goto _ => true
  | .iconst _ => true
  | .if_icmp _ _ => true
  | .iinc _ _ => true
  | .iload_n _ => true
  | .invokespecial _ => true
  | .istore_n _ => true
  | .sipush _ => true
  | _ => false
theorem pure_ok {ins : Instr} {n r1 r2 r3 pc : Nat} {lv : aV} {st : List Value} {h : aM} (hp : cPure ins = true) : aStep ins n r1 r2 r3 pc lv st h = (aStep ins n r1 r2 r3 pc lv st m0).map (fun o => (o.1, o.2.1, o.2.2.1, h)) := by
  cases ins <;> first
    | (cases hp; done)
    | rfl
    | (simp only [aStep, aLdA, aLdI, aSvI, aSw, aJ]
       repeat' split
       all_goals rfl)
abbrev dO : Type := Nat × aV × List Value × dM
def dNa (tg q : Nat) (lv : aV) (st : List Value) (c : dM) : Option dO := match st with
  | .int n :: t => if ¬ n < 0 ∧ n.toNatClampNeg ≤ 1000000 then some (q, lv, .ref (32 + c.2.1) :: t, cNew c (tg, n.toNatClampNeg)) else none
  | _ => none
def dMna (q : Nat) (lv : aV) (st : List Value) (c : dM) : Option dO := match st with
  | .int k :: .int n :: t => if ¬ n < 0 ∧ ¬ k < 0 ∧ n.toNatClampNeg ≤ 1000 ∧ k.toNatClampNeg ≤ 1000 then some (q, lv, .ref (32 + c.2.1) :: t, cMul c n.toNatClampNeg k.toNatClampNeg) else none
  | _ => none
def dPut (t k kind q : Nat) (lv : aV) (st : List Value) (c : dM) : Option dO := match st with
  | v :: .ref a :: u => if cSh c a = some (t, aNf t) ∧ k < aNf t then
      (match kind, v with
        | 0, .int x => some (q, lv, u, (c.1, c.2.1, c.2.2.1, (a, k, x) :: c.2.2.2.1, c.2.2.2.2))
        | 2, .ref x => some (q, lv, u, (c.1, c.2.1, c.2.2.1, c.2.2.2.1, (a, k, some x) :: c.2.2.2.2))
        | _, _ => none) else none
  | _ => none
def dGet (t k kind q : Nat) (lv : aV) (st : List Value) (c : dM) : Option dO := match st with
  | .ref a :: u => if cSh c a = some (t, aNf t) ∧ k < aNf t ∧ kind = 2 then some (q, lv, aRf (lkW (fun _ _ => none) c.2.2.2.2 a k) :: u, c) else none
  | _ => none
def dAas (tg t q : Nat) (lv : aV) (st : List Value) (c : dM) : Option dO := match st with
  | .ref x :: .int i :: .ref a :: u => match cSh c a with
    | some s => if s.1 = tg ∧ ¬ i < 0 ∧ i.toNatClampNeg < s.2 ∧ cSh c x = some (t, aNf t) then some (q, lv, u, (c.1, c.2.1, c.2.2.1, c.2.2.2.1, (a, i.toNatClampNeg, some x) :: c.2.2.2.2)) else none
    | none => none
  | _ => none
def dStep (ins : Instr) (n r1 r2 r3 pc : Nat) (lv : aV) (st : List Value) (c : dM) : Option dO := match ins with
  | .new _ => some (pc + n, lv, .ref (32 + c.2.1) :: st, cNew c (r1, aNf r1))
  | .newarray _ => dNa r1 (pc + n) lv st c
  | .anewarray _ => dNa r1 (pc + n) lv st c
  | .multianewarray _ _ => dMna (pc + n) lv st c
  | .putfield _ => dPut r1 r2 r3 (pc + n) lv st c
  | .getfield _ => dGet r1 r2 r3 (pc + n) lv st c
  | .aastore => dAas r1 r2 (pc + n) lv st c
  | _ => if cPure ins = true then (aStep ins n r1 r2 r3 pc lv st m0).map (fun o => (o.1, o.2.1, o.2.2.1, c)) else none
section DC
variable {b : aM} {c : dM} {o : dO} {lv : aV} {st : List Value} {q : Nat}
theorem lkW_b {a k : Nat} (wb : WfB b) (ha : 32 ≤ a) : lkW b.2.2.2.2 c.2.2.2.2 a k = lkW (fun _ _ => none) c.2.2.2.2 a k := by
  generalize c.2.2.2.2 = l
  induction l with
  | nil => exact wb.2.2.2 a k ha
  | cons e t ih =>
    obtain ⟨x, j, v⟩ := e
    unfold lkW aU
    rw [ih]
theorem wf_wi {a k : Nat} {x : Int32} (wc : WfD c) (ha : a < 32 + c.2.1) : WfD (c.1, c.2.1, c.2.2.1, (a, k, x) :: c.2.2.2.1, c.2.2.2.2) := ⟨wc.1, fun e he => by
  rcases List.mem_cons.mp he with rfl | h
  · exact ha
  · exact wc.2.1 e h, wc.2.2⟩
theorem wf_wr {a k : Nat} {x : Option Nat} (wc : WfD c) (ha : a < 32 + c.2.1) : WfD (c.1, c.2.1, c.2.2.1, c.2.2.2.1, (a, k, x) :: c.2.2.2.2) := ⟨wc.1, wc.2.1, fun e he => by
  rcases List.mem_cons.mp he with rfl | h
  · exact ha
  · exact wc.2.2 e h⟩
theorem dNa_ok {tg : Nat} (wb : WfB b) (wc : WfD c) (h : dNa tg q lv st c = some o) : aNa tg q lv st (mkC b c) = some (o.1, o.2.1, o.2.2.1, mkC b o.2.2.2) ∧ WfD o.2.2.2 := by
  unfold dNa at h
  split at h
  · split at h
    · next hg =>
      cases h
      refine ⟨?_, wf_new wc⟩
      unfold aNa
      simp only
      rw [if_pos hg, mkC_len wb wc, mkC_new wb wc]
    · cases h
  · cases h
theorem dMna_ok (wb : WfB b) (wc : WfD c) (h : dMna q lv st c = some o) : aMna q lv st (mkC b c) = some (o.1, o.2.1, o.2.2.1, mkC b o.2.2.2) ∧ WfD o.2.2.2 := by
  unfold dMna at h
  split at h
  · split at h
    · next hg =>
      cases h
      refine ⟨?_, wf_mul wc⟩
      unfold aMna
      simp only
      rw [if_pos hg, mkC_len wb wc, mkC_mul wb wc]
    · cases h
  · cases h
theorem dPut_ok {t k kind : Nat} (wb : WfB b) (wc : WfD c) (h : dPut t k kind q lv st c = some o) : aPut t k kind q lv st (mkC b c) = some (o.1, o.2.1, o.2.2.1, mkC b o.2.2.2) ∧ WfD o.2.2.2 := by
  unfold dPut at h
  split at h
  · split at h
    · next hg =>
      obtain ⟨s1, s2, s3⟩ := cSh_ok wb wc hg.1
      unfold aPut
      split at h
      · cases h
        simp only
        rw [if_pos (show (mkC b c).1[_]? = some (t, aNf t) ∧ k < aNf t ∧ aK ≤ _ from ⟨s1, hg.2, s2⟩)]
        exact ⟨rfl, wf_wi wc s3⟩
      · cases h
        simp only
        rw [if_pos (show (mkC b c).1[_]? = some (t, aNf t) ∧ k < aNf t ∧ aK ≤ _ from ⟨s1, hg.2, s2⟩)]
        exact ⟨rfl, wf_wr wc s3⟩
      · cases h
    · cases h
  · cases h
theorem dGet_ok {t k kind : Nat} (wb : WfB b) (wc : WfD c) (h : dGet t k kind q lv st c = some o) : aGet t k kind q lv st (mkC b c) = some (o.1, o.2.1, o.2.2.1, mkC b o.2.2.2) ∧ WfD o.2.2.2 := by
  unfold dGet at h
  split at h
  · split at h
    · next hg =>
      obtain ⟨s1, s2, s3⟩ := cSh_ok wb wc hg.1
      cases h
      refine ⟨?_, wc⟩
      unfold aGet
      simp only
      rw [if_pos (show (mkC b c).1[_]? = some (t, aNf t) ∧ k < aNf t from ⟨s1, hg.2.1⟩), hg.2.2, ← lkW_b wb s2]
      rfl
    · cases h
  · cases h
theorem dAas_ok {tg t : Nat} (wb : WfB b) (wc : WfD c) (h : dAas tg t q lv st c = some o) : aAas tg t q lv st (mkC b c) = some (o.1, o.2.1, o.2.2.1, mkC b o.2.2.2) ∧ WfD o.2.2.2 := by
  unfold dAas at h
  split at h
  · split at h
    · next hs =>
      split at h
      · next hg =>
        obtain ⟨s1, s2, s3⟩ := cSh_ok wb wc hs
        obtain ⟨x1, x2, x3⟩ := cSh_ok wb wc hg.2.2.2
        cases h
        refine ⟨?_, wf_wr wc s3⟩
        unfold aAas aArr
        simp only
        rw [s1]
        simp only
        rw [if_pos ⟨by simp [hg.1, hg.2.1, hg.2.2.1], s2, x2, x1⟩]
        rfl
      · cases h
    · cases h
  · cases h
theorem dStep_ok {ins : Instr} {n r1 r2 r3 pc : Nat} (wb : WfB b) (wc : WfD c) (h : dStep ins n r1 r2 r3 pc lv st c = some o) : aStep ins n r1 r2 r3 pc lv st (mkC b c) = some (o.1, o.2.1, o.2.2.1, mkC b o.2.2.2) ∧ WfD o.2.2.2 := by
  unfold dStep at h
  split at h
  · cases h
    refine ⟨?_, wf_new wc⟩
    unfold aStep
    simp only
    rw [mkC_len wb wc, mkC_new wb wc]
  · exact dNa_ok wb wc h
  · exact dNa_ok wb wc h
  · exact dMna_ok wb wc h
  · exact dPut_ok wb wc h
  · exact dGet_ok wb wc h
  · exact dAas_ok wb wc h
  · split at h
    · next hp =>
      rw [pure_ok hp]
      cases e : aStep ins n r1 r2 r3 pc lv st m0 with
      | none =>
        rw [e] at h
        cases h
      | some x =>
        rw [e] at h
        cases h
        exact ⟨rfl, wc⟩
    · cases h
end DC
def dRun : Nat → Nat → Nat → Nat → aV → List Value → dM → Option dM
  | 0, _, _, _, _, _, _ => none
  | f + 1, d, k, pc, lv, st, c => match aCD k pc with
    | none => none
    | some (ins, n, r1, r2, r3) =>
      if aIsRet ins = true then (match aMI k with
        | some (_, _, _, rt) => (match aRetV ins rt st with
          | some none => some c
          | _ => none)
        | none => none)
      else if aIsCall ins r1 = true then (match d, aMI r1 with
        | d' + 1, some (_, _, mL, _) => (match ins with
          | .invokespecial i => if aCallOk (.invokespecial i) r2 r3 mL st m0 = true then (match dRun f d' r1 0 (aArg mL (st.take (r2 + 1)).reverse) [] c with
              | some c1 => dRun f (d' + 1) k (pc + n) lv (st.drop (r2 + 1)) c1
              | none => none) else none
          | _ => none)
        | _, _ => none)
      else if aIsPm ins r1 = true then none
      else (match dStep ins n r1 r2 r3 pc lv st c with
        | some o => dRun f d k o.1 o.2.1 o.2.2.1 o.2.2.2
        | none => none)
theorem aRecv_i {i r3 : Nat} {as : List Value} {h h' : aM} : aRecv (.invokespecial i) r3 as h = aRecv (.invokespecial i) r3 as h' := by
  cases as with
  | nil => rfl
  | cons v t => cases v <;> rfl
theorem aCallOk_i {i r2 r3 mL : Nat} {st : List Value} {h h' : aM} : aCallOk (.invokespecial i) r2 r3 mL st h = aCallOk (.invokespecial i) r2 r3 mL st h' := by
  unfold aCallOk
  rw [aRecv_i (h' := h')]
theorem dRun_ok {b : aM} (wb : WfB b) (e : Nat) : ∀ (f d k pc : Nat) (lv : aV) (st : List Value) (c c' : dM), WfD c → dRun f d k pc lv st c = some c' → aRun aMI aCD aPM f (e + d) k pc lv st (mkC b c) = some (none, mkC b c') ∧ WfD c'
  | 0, _, _, _, _, _, _, _, _, h => by cases h
  | f + 1, d, k, pc, lv, st, c, c', wc, h => by
    unfold dRun at h
    unfold aRun
    split at h
    · cases h
    · rename_i ins n r1 r2 r3 hcd
      rw [hcd]
      simp only
      split at h
      · next h1 =>
        rw [if_pos h1]
        split at h
        · next hm =>
          rw [hm]
          simp only
          split at h
          · next hv =>
            cases h
            rw [hv]
            exact ⟨rfl, wc⟩
          · cases h
        · cases h
      · next h1 =>
        rw [if_neg h1]
        split at h
        · next h2 =>
          rw [if_pos h2]
          split at h
          · next d' y0 b0 mL rt hm =>
            split at h
            · next i =>
              split at h
              · next hok =>
                split at h
                · next c1 hr1 =>
                  obtain ⟨a1, w1⟩ := dRun_ok wb e f d' r1 0 _ _ _ _ wc hr1
                  obtain ⟨a2, w2⟩ := dRun_ok wb e f (d' + 1) k _ _ _ _ _ w1 h
                  refine ⟨?_, w2⟩
                  rw [show e + (d' + 1) = (e + d') + 1 from rfl, hm]
                  simp only
                  rw [if_pos (show aCallOk (.invokespecial i) r2 r3 mL st (mkC b c) = true from aCallOk_i.trans hok)]
                  rw [show aNum (.invokespecial i) r2 = r2 + 1 from rfl, a1]
                  exact a2
                · cases h
              · cases h
            · cases h
          · cases h
        · next h2 =>
          rw [if_neg h2]
          split at h
          · cases h
          · next h3 =>
            rw [if_neg h3]
            split at h
            · next o ho =>
              obtain ⟨s1, w1⟩ := dStep_ok wb wc ho
              rw [s1]
              exact dRun_ok wb e f d k _ _ _ _ _ w1 h
            · cases h
