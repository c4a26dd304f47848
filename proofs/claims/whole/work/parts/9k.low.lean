-- deps: 9j.text2
/-! ===== what runs leave as it is: the cells below 32 ===== -/
def LoK (h h' : aM) : Prop := ∀ a k, a < 32 → gi h' a k = gi h a k
theorem LoK.refl {h : aM} : LoK h h := fun _ _ _ => rfl
theorem LoK.trans {h h' h'' : aM} (a : LoK h h') (b : LoK h' h'') : LoK h h'' := fun x k q => (b x k q).trans (a x k q)
theorem LoK.wi {h : aM} {a k : Nat} {x : Int32} (ha : 32 ≤ a) : LoK h (aWi h a k x) := fun b j q => gi_wi_n (by omega)
theorem lo_put {c k kind q : Nat} {lv : aV} {st : List Value} {h : aM} {o : aO} (hs : aPut c k kind q lv st h = some o) : LoK h o.2.2.2 := by
  unfold aPut at hs
  split at hs
  · split at hs
    · next hg =>
      split at hs
      · cases hs
        exact LoK.wi hg.2.2
      · cases hs
        exact LoK.refl
      · cases hs
        exact LoK.refl
      · cases hs
        exact LoK.refl
      · split at hs
        · cases hs
          exact LoK.wi hg.2.2
        · cases hs
      · cases hs
    · cases hs
  · cases hs
theorem lo_ias {q : Nat} {lv : aV} {st : List Value} {h : aM} {o : aO} (hs : aIas q lv st h = some o) : LoK h o.2.2.2 := by
  unfold aIas at hs
  split at hs
  · split at hs
    · next hg =>
      cases hs
      exact LoK.wi hg.2
    · cases hs
  · cases hs
theorem lo_zas {q : Nat} {lv : aV} {st : List Value} {h : aM} {o : aO} (hs : aZas q lv st h = some o) : LoK h o.2.2.2 := by
  unfold aZas at hs
  split at hs
  · split at hs
    · next hg =>
      cases hs
      exact LoK.wi hg.2
    · cases hs
  · cases hs
theorem lo_las {q : Nat} {lv : aV} {st : List Value} {h : aM} {o : aO} (hs : aLas q lv st h = some o) : LoK h o.2.2.2 := by
  unfold aLas at hs
  split at hs
  · split at hs
    · cases hs
      exact LoK.refl
    · cases hs
  · cases hs
theorem lo_aas {c k q : Nat} {lv : aV} {st : List Value} {h : aM} {o : aO} (hs : aAas c k q lv st h = some o) : LoK h o.2.2.2 := by
  unfold aAas at hs
  split at hs
  · split at hs
    · cases hs
      exact LoK.refl
    · cases hs
  · cases hs
theorem lo_cpy {q : Nat} {lv : aV} {st : List Value} {h : aM} {o : aO} (hs : aCpy q lv st h = some o) : LoK h o.2.2.2 := by
  unfold aCpy at hs
  split at hs
  · split at hs
    · split at hs
      · next hg =>
        cases hs
        intro a k ha
        show aRow _ _ _ a k = _
        unfold aRow
        rw [if_neg]
        · rfl
        · have := hg.2.2.2.2.2.1
          unfold aK at this
          omega
      · cases hs
    · cases hs
  · cases hs
theorem lo_step {ins : Instr} {n r1 r2 r3 pc : Nat} {lv : aV} {st : List Value} {h : aM} {o : aO} (hs : aStep ins n r1 r2 r3 pc lv st h = some o) (hk : okI false ins r3 = true) : LoK h o.2.2.2 := by
  unfold aStep at hs
  split at hs
  all_goals first
    | (cases hs; exact LoK.refl)
    | (cases hk; done)
    | exact lo_ias hs
    | exact lo_zas hs
    | exact lo_aas hs
    | exact lo_put hs
    | exact lo_las hs
    | (simp only [aLdI, aLdL, aLdA, aSvI, aSvL, aSvA, aIop, aLop, aLsh, aIun, aSw, aDup2, aGet, aIal, aLal, aAal, aLen, aJ] at hs
       repeat' split at hs
       all_goals first
         | (cases hs; exact LoK.refl)
         | (cases hs; done))
    | (split at hs
       · exact lo_cpy hs
       · cases hs)
    | (repeat' split at hs
       all_goals first
         | (cases hs; exact LoK.refl)
         | (cases hs; done)
         | (simp only [aSw, aJ] at hs
            repeat' split at hs
            all_goals first
              | (cases hs; exact LoK.refl)
              | (cases hs; done)))
theorem lo_run {sB : Nat → Bool} (hb : setB false sB aCode 0 = true) (h3 : sB 300 = false) : ∀ (n d k pc : Nat) (lv : aV) (st : List Value) (h : aM) (v : Option Value) (h' : aM), sB k = true → aRun aMI aCD aPM n d k pc lv st h = some (v, h') → LoK h h'
  | 0, _, _, _, _, _, _, _, _, _, hr => by simp [aRun] at hr
  | n + 1, d, k, pc, lv, st, h, v, h', hk, hr => by
    unfold aRun at hr
    split at hr
    · cases hr
    · rename_i ins len r1 r2 r3 hcd
      obtain ⟨c1, c2, c3⟩ := set_cd hb h3 hk hcd
      split at hr
      · split at hr
        · split at hr
          · cases hr
            exact LoK.refl
          · cases hr
        · cases hr
      · split at hr
        · rename_i h2
          split at hr
          · split at hr
            · split at hr
              · rename_i v1 h1 hr1
                exact (lo_run hb h3 n _ _ _ _ _ _ _ _ (c2 h2) hr1).trans (lo_run hb h3 n _ _ _ _ _ _ _ _ hk hr)
              · cases hr
            · cases hr
          · cases hr
        · rw [c3] at hr
          rw [if_neg (by decide)] at hr
          split at hr
          · rename_i o ho
            exact (lo_step ho c1).trans (lo_run hb h3 n _ _ _ _ _ _ _ _ hk hr)
          · cases hr
/-- a run makes nothing and leaves the script -/
theorem AW.lo {d k pc : Nat} {lv : aV} {st : List Value} {h : aM} {Q : Option Value → aM → Prop} (hk : sA k = true) (w : AW d k pc lv st h Q) : AW d k pc lv st h (fun v h' => Q v h' ∧ h'.1 = h.1 ∧ h'.2.1 = h.2.1 ∧ LoK h h') := by
  obtain ⟨n, v, h', hr, hq⟩ := w
  have a := kp_run sA_ok (by decide) n d k pc lv st h v h' hk hr
  exact ⟨n, v, h', hr, hq, a.1, a.2.1, lo_run sA_ok (by decide) n d k pc lv st h v h' hk hr⟩
/-- what the law's loop keeps -/
def KeepH (g h : aM) : Prop := (∃ j, j ≤ 1 ∧ h.1 = g.1 ++ List.replicate j (99, 6) ∧ h.2.1 = g.2.1 + 6 * j) ∧ LoK g h
def LawA (B : Nat) (kc km : Nat) (ac am : aV) : Prop := ∀ g d, Inv g → AW (d + B) kc 0 ac [] g (fun v h1 => (h1.1 = g.1 ∧ h1.2.1 = g.2.1 ∧ LoK g h1) ∧ ∃ X, v = some (.int X) ∧ AW (d + B) km 0 am [] h1 (fun v' h2 => (h2.1 = g.1 ∧ h2.2.1 = g.2.1 ∧ LoK g h2) ∧ v' = some (.int X) ∧ Inv h2))
theorem ActD.law {B kc km : Nat} {ac am : aV} (a : ActD B kc km ac am) (h1 : sA kc = true) (h2 : sA km = true) : LawA B kc km ac am := by
  intro g d i
  refine ((a g d i).lo h1).mono ?_
  rintro v x ⟨⟨X, e, w⟩, e1, e2, e3⟩
  refine ⟨⟨e1, e2, e3⟩, X, e, (w.lo h2).mono ?_⟩
  rintro v' y ⟨⟨q1, q2⟩, q3, q4, q5⟩
  exact ⟨⟨q3.trans e1, q4.trans e2, e3.trans q5⟩, q1, q2⟩
theorem Act.law {kc km : Nat} {ac am : aV} (a : Act kc km ac am) (h1 : sA kc = true) (h2 : sA km = true) : LawA 24 kc km ac am := ActD.law a h1 h2
theorem LawA.deep {B B' kc km : Nat} {ac am : aV} (a : LawA B kc km ac am) (hB : B ≤ B') : LawA B' kc km ac am := by
  intro g d i
  have := a g (d + (B' - B)) i
  rw [show d + (B' - B) + B = d + B' by omega] at this
  exact this
