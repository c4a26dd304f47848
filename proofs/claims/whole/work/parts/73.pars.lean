-- deps: 72.tape3
/-! ===== laws as texts: the grammar ===== -/
abbrev Tk : Type := Nat × Nat
abbrev PR : Type := Nat ⊕ (Nat × List Tk)
def bnd (x : Option PR) (f : Nat → List Tk → Option PR) : Option PR := match x with
  | none => none
  | some (.inl q) => some (.inl q)
  | some (.inr (p, t)) => f p t
def okP (p : Nat) (t : List Tk) : Option PR := some (.inr (p, t))
def erP (q : Nat) : Option PR := some (.inl q)
theorem bnd_of {x : Option PR} {f : Nat → List Tk → Option PR} {r : PR} (h : bnd x f = some r) : (∃ q, x = some (.inl q) ∧ r = .inl q) ∨ ∃ p t, x = some (.inr (p, t)) ∧ f p t = some r := by
  unfold bnd at h
  split at h
  · cases h
  · next q =>
    cases h
    exact Or.inl ⟨q, rfl, rfl⟩
  · next p t => exact Or.inr ⟨p, t, rfl, h⟩
def sgB (B : Nat → Nat) (T q : Nat) : Nat := if q < T then B q else 0
def ltO (b : Nat) : Option Nat := if b = 118 then some 0 else if b = 100 then some 1 else if b = 112 then some 2 else if b = 109 then some 3 else if b = 114 then some 4 else if b = 110 then some 5 else none
def opS (b : Nat) : Option Nat := if b = 43 then some 2 else if b = 45 then some 3 else none
def opT (b : Nat) : Option Nat := if b = 42 then some 4 else if b = 47 then some 5 else none
def opC (b : Nat) : Option Nat := if b = 61 then some 6 else if b = 60 then some 7 else if b = 62 then some 8 else none
/-- modes: 0 sum, 1 more of a sum, 2 term, 3 more of a term, 4 atom, 5 condition, 6 more truths, 8 more units, 9 unit, 10 comparison -/
def pr (B : Nat → Nat) (T : Nat) : Nat → Nat → Nat → Nat → Option PR
  | 0, _, _, _ => none
  | n + 1, 0, k, p => bnd (pr B T n 2 k p) (fun p1 t1 => bnd (pr B T n 1 k p1) (fun p2 t2 => okP p2 (t1 ++ t2)))
  | n + 1, 1, k, p => match opS (sgB B T (sk B T p)) with
    | some o => bnd (pr B T n 2 k (sk B T p + 1)) (fun p1 t1 => bnd (pr B T n 1 k p1) (fun p2 t2 => okP p2 (t1 ++ (o, 0) :: t2)))
    | none => okP (sk B T p) []
  | n + 1, 2, k, p => bnd (pr B T n 4 k p) (fun p1 t1 => bnd (pr B T n 3 k p1) (fun p2 t2 => okP p2 (t1 ++ t2)))
  | n + 1, 3, k, p => match opT (sgB B T (sk B T p)) with
    | some o => bnd (pr B T n 4 k (sk B T p + 1)) (fun p1 t1 => bnd (pr B T n 3 k p1) (fun p2 t2 => okP p2 (t1 ++ (o, 0) :: t2)))
    | none => okP (sk B T p) []
  | n + 1, 4, k, p => if dgA B T (sk B T p) = true then (if dgc B T (sk B T p) 5 = 5 then erP (sk B T p + 4) else okP (sk B T p + dgc B T (sk B T p) 5) [(0, vlD B (sk B T p) (dgc B T (sk B T p) 5))])
    else (match ltO (sgB B T (sk B T p)) with
      | some l => okP (sk B T p + 1) [(1, l)]
      | none => if sgB B T (sk B T p) = 91 ∧ k < 6 then bnd (pr B T n 0 (k + 1) (sk B T p + 1)) (fun p1 t1 => if sgB B T (sk B T p1) = 93 then okP (sk B T p1 + 1) t1 else erP (sk B T p1)) else erP (sk B T p))
  | n + 1, 5, k, p => bnd (pr B T n 9 k p) (fun p1 t1 => bnd (pr B T n 8 k p1) (fun p2 t2 => bnd (pr B T n 6 k p2) (fun p3 t3 => okP p3 (t1 ++ t2 ++ t3))))
  | n + 1, 6, k, p => if sgB B T (sk B T p) = 124 then bnd (pr B T n 9 k (sk B T p + 1)) (fun p1 t1 => bnd (pr B T n 8 k p1) (fun p2 t2 => bnd (pr B T n 6 k p2) (fun p3 t3 => okP p3 (t1 ++ t2 ++ (11, 0) :: t3)))) else okP (sk B T p) []
  | n + 1, 8, k, p => if sgB B T (sk B T p) = 38 then bnd (pr B T n 9 k (sk B T p + 1)) (fun p1 t1 => bnd (pr B T n 8 k p1) (fun p2 t2 => okP p2 (t1 ++ (10, 0) :: t2))) else okP (sk B T p) []
  | n + 1, 9, k, p => if sgB B T (sk B T p) = 33 then (if k < 6 then bnd (pr B T n 9 (k + 1) (sk B T p + 1)) (fun p1 t1 => okP p1 (t1 ++ [(9, 0)])) else erP (sk B T p))
    else if sgB B T (sk B T p) = 40 then (if k < 6 then bnd (pr B T n 5 (k + 1) (sk B T p + 1)) (fun p1 t1 => if sgB B T (sk B T p1) = 41 then okP (sk B T p1 + 1) t1 else erP (sk B T p1)) else erP (sk B T p))
    else bnd (pr B T n 0 k (sk B T p)) (fun p1 t1 => bnd (pr B T n 10 k p1) (fun p2 t2 => okP p2 (t1 ++ t2)))
  | n + 1, 10, k, p => match opC (sgB B T (sk B T p)) with
    | some o => bnd (pr B T n 0 k (sk B T p + 1)) (fun p1 t1 => okP p1 (t1 ++ [(o, 0)]))
    | none => erP (sk B T p)
  | _ + 1, _, _, _ => none
/-- how far a reading comes -/
def ltM (m : Nat) : Nat := if m = 1 ∨ m = 3 ∨ m = 6 ∨ m = 8 then 0 else 1
def PosR (T p m : Nat) (r : PR) : Prop := match r with
  | .inl q => p ≤ q ∧ q ≤ T
  | .inr (p', t) => p + ltM m ≤ p' ∧ p' ≤ T ∧ t.length + p ≤ p'
section P1
variable {B : Nat → Nat} {T p : Nat}
theorem sg_lt {b : Nat} (hb : 0 < b) (h : sgB B T p = b) : p < T := by
  unfold sgB at h
  split at h
  · assumption
  · omega
theorem opS_lt {o : Nat} (h : opS (sgB B T p) = some o) : p < T := by
  unfold opS at h
  split at h
  · next e => exact sg_lt (by omega) e
  · split at h
    · next e => exact sg_lt (by omega) e
    · cases h
theorem opT_lt {o : Nat} (h : opT (sgB B T p) = some o) : p < T := by
  unfold opT at h
  split at h
  · next e => exact sg_lt (by omega) e
  · split at h
    · next e => exact sg_lt (by omega) e
    · cases h
theorem opC_lt {o : Nat} (h : opC (sgB B T p) = some o) : p < T := by
  unfold opC at h
  split at h
  · next e => exact sg_lt (by omega) e
  · split at h
    · next e => exact sg_lt (by omega) e
    · split at h
      · next e => exact sg_lt (by omega) e
      · cases h
theorem ltO_lt {o : Nat} (h : ltO (sgB B T p) = some o) : p < T ∧ o < 6 := by
  unfold ltO at h
  repeat' split at h
  all_goals first
    | (cases h; done)
    | (next e => cases h; exact ⟨sg_lt (by omega) e, by omega⟩)
theorem dgc_pos (h : dgA B T p = true) : 1 ≤ dgc B T p 5 := by
  rw [dgc, if_pos (dgA_iff.mp h)]
  omega
variable {n k : Nat}
theorem prE0 : pr B T (n + 1) 0 k p = bnd (pr B T n 2 k p) (fun p1 t1 => bnd (pr B T n 1 k p1) (fun p2 t2 => okP p2 (t1 ++ t2))) := rfl
theorem prE1 : pr B T (n + 1) 1 k p = (match opS (sgB B T (sk B T p)) with
    | some o => bnd (pr B T n 2 k (sk B T p + 1)) (fun p1 t1 => bnd (pr B T n 1 k p1) (fun p2 t2 => okP p2 (t1 ++ (o, 0) :: t2)))
    | none => okP (sk B T p) []) := rfl
theorem prE2 : pr B T (n + 1) 2 k p = bnd (pr B T n 4 k p) (fun p1 t1 => bnd (pr B T n 3 k p1) (fun p2 t2 => okP p2 (t1 ++ t2))) := rfl
theorem prE3 : pr B T (n + 1) 3 k p = (match opT (sgB B T (sk B T p)) with
    | some o => bnd (pr B T n 4 k (sk B T p + 1)) (fun p1 t1 => bnd (pr B T n 3 k p1) (fun p2 t2 => okP p2 (t1 ++ (o, 0) :: t2)))
    | none => okP (sk B T p) []) := rfl
theorem prE4 : pr B T (n + 1) 4 k p = if dgA B T (sk B T p) = true then (if dgc B T (sk B T p) 5 = 5 then erP (sk B T p + 4) else okP (sk B T p + dgc B T (sk B T p) 5) [(0, vlD B (sk B T p) (dgc B T (sk B T p) 5))])
    else (match ltO (sgB B T (sk B T p)) with
      | some l => okP (sk B T p + 1) [(1, l)]
      | none => if sgB B T (sk B T p) = 91 ∧ k < 6 then bnd (pr B T n 0 (k + 1) (sk B T p + 1)) (fun p1 t1 => if sgB B T (sk B T p1) = 93 then okP (sk B T p1 + 1) t1 else erP (sk B T p1)) else erP (sk B T p)) := rfl
theorem prE5 : pr B T (n + 1) 5 k p = bnd (pr B T n 9 k p) (fun p1 t1 => bnd (pr B T n 8 k p1) (fun p2 t2 => bnd (pr B T n 6 k p2) (fun p3 t3 => okP p3 (t1 ++ t2 ++ t3)))) := rfl
theorem prE6 : pr B T (n + 1) 6 k p = if sgB B T (sk B T p) = 124 then bnd (pr B T n 9 k (sk B T p + 1)) (fun p1 t1 => bnd (pr B T n 8 k p1) (fun p2 t2 => bnd (pr B T n 6 k p2) (fun p3 t3 => okP p3 (t1 ++ t2 ++ (11, 0) :: t3)))) else okP (sk B T p) [] := rfl
theorem prE8 : pr B T (n + 1) 8 k p = if sgB B T (sk B T p) = 38 then bnd (pr B T n 9 k (sk B T p + 1)) (fun p1 t1 => bnd (pr B T n 8 k p1) (fun p2 t2 => okP p2 (t1 ++ (10, 0) :: t2))) else okP (sk B T p) [] := rfl
theorem prE9 : pr B T (n + 1) 9 k p = if sgB B T (sk B T p) = 33 then (if k < 6 then bnd (pr B T n 9 (k + 1) (sk B T p + 1)) (fun p1 t1 => okP p1 (t1 ++ [(9, 0)])) else erP (sk B T p))
    else if sgB B T (sk B T p) = 40 then (if k < 6 then bnd (pr B T n 5 (k + 1) (sk B T p + 1)) (fun p1 t1 => if sgB B T (sk B T p1) = 41 then okP (sk B T p1 + 1) t1 else erP (sk B T p1)) else erP (sk B T p))
    else bnd (pr B T n 0 k (sk B T p)) (fun p1 t1 => bnd (pr B T n 10 k p1) (fun p2 t2 => okP p2 (t1 ++ t2))) := rfl
theorem prE10 : pr B T (n + 1) 10 k p = (match opC (sgB B T (sk B T p)) with
    | some o => bnd (pr B T n 0 k (sk B T p + 1)) (fun p1 t1 => okP p1 (t1 ++ [(o, 0)]))
    | none => erP (sk B T p)) := rfl
theorem prEN {m : Nat} (h : m = 7 ∨ 11 ≤ m) : pr B T (n + 1) m k p = none := by
  rcases h with rfl | h
  · rfl
  · obtain ⟨m, rfl⟩ : ∃ m', m = m' + 11 := ⟨m - 11, by omega⟩
    rfl
/-- two readings, one behind the other -/
theorem pos2 {m m1 m2 p0 : Nat} {x : List Tk → List Tk → List Tk} {r : PR} (ih : ∀ m k p r, pr B T n m k p = some r → p ≤ T → PosR T p m r) (h : bnd (pr B T n m1 k p0) (fun p1 t1 => bnd (pr B T n m2 k p1) (fun p2 t2 => okP p2 (x t1 t2))) = some r) (hp : p ≤ p0) (hp0 : p0 ≤ T) (hx : ∀ t1 t2 : List Tk, (x t1 t2).length + p ≤ t1.length + t2.length + p0) (hm : p + ltM m ≤ p0 + ltM m1 + ltM m2) : PosR T p m r := by
  rcases bnd_of h with ⟨q, e, rfl⟩ | ⟨p1, t1, e, h⟩
  · have i1 := ih _ _ _ _ e hp0
    unfold PosR at i1 ⊢
    simp only at i1 ⊢
    omega
  · have i1 := ih _ _ _ _ e hp0
    unfold PosR at i1
    simp only at i1
    rcases bnd_of h with ⟨q, e, rfl⟩ | ⟨p2, t2, e, h⟩
    · have i2 := ih _ _ _ _ e i1.2.1
      unfold PosR at i2 ⊢
      simp only at i2 ⊢
      omega
    · have i2 := ih _ _ _ _ e i1.2.1
      cases h
      have := hx t1 t2
      unfold PosR at i2 ⊢
      simp only at i2 ⊢
      omega
theorem pos3 {m m1 m2 m3 p0 : Nat} {x : List Tk → List Tk → List Tk → List Tk} {r : PR} (ih : ∀ m k p r, pr B T n m k p = some r → p ≤ T → PosR T p m r) (h : bnd (pr B T n m1 k p0) (fun p1 t1 => bnd (pr B T n m2 k p1) (fun p2 t2 => bnd (pr B T n m3 k p2) (fun p3 t3 => okP p3 (x t1 t2 t3)))) = some r) (hp : p ≤ p0) (hp0 : p0 ≤ T) (hx : ∀ t1 t2 t3 : List Tk, (x t1 t2 t3).length + p ≤ t1.length + t2.length + t3.length + p0) (hm : p + ltM m ≤ p0 + ltM m1 + ltM m2 + ltM m3) : PosR T p m r := by
  rcases bnd_of h with ⟨q, e, rfl⟩ | ⟨p1, t1, e, h⟩
  · have i1 := ih _ _ _ _ e hp0
    unfold PosR at i1 ⊢
    simp only at i1 ⊢
    omega
  · have i1 := ih _ _ _ _ e hp0
    unfold PosR at i1
    simp only at i1
    rcases bnd_of h with ⟨q, e, rfl⟩ | ⟨p2, t2, e, h⟩
    · have i2 := ih _ _ _ _ e i1.2.1
      unfold PosR at i2 ⊢
      simp only at i2 ⊢
      omega
    · have i2 := ih _ _ _ _ e i1.2.1
      unfold PosR at i2
      simp only at i2
      rcases bnd_of h with ⟨q, e, rfl⟩ | ⟨p3, t3, e, h⟩
      · have i3 := ih _ _ _ _ e i2.2.1
        unfold PosR at i3 ⊢
        simp only at i3 ⊢
        omega
      · have i3 := ih _ _ _ _ e i2.2.1
        cases h
        have := hx t1 t2 t3
        unfold PosR at i3 ⊢
        simp only at i3 ⊢
        omega
theorem posB {m m1 k' p0 b : Nat} {r : PR} (ih : ∀ m k p r, pr B T n m k p = some r → p ≤ T → PosR T p m r) (h : bnd (pr B T n m1 k' p0) (fun p1 t1 => if sgB B T (sk B T p1) = b then okP (sk B T p1 + 1) t1 else erP (sk B T p1)) = some r) (hb : 0 < b) (hp : p ≤ p0) (hp0 : p0 ≤ T) (hm : ltM m ≤ 1) : PosR T p m r := by
  rcases bnd_of h with ⟨q, e, rfl⟩ | ⟨p1, t1, e, h⟩
  · have i1 := ih _ _ _ _ e hp0
    unfold PosR at i1 ⊢
    simp only at i1 ⊢
    omega
  · have i1 := ih _ _ _ _ e hp0
    unfold PosR at i1
    simp only at i1
    have hs := sk_le (B := B) i1.2.1
    split at h
    · next e =>
      have := sg_lt hb e
      cases h
      unfold PosR
      simp only
      omega
    · cases h
      unfold PosR
      simp only
      omega
theorem posO {m m1 k' p0 o : Nat} {r : PR} (ih : ∀ m k p r, pr B T n m k p = some r → p ≤ T → PosR T p m r) (h : bnd (pr B T n m1 k' p0) (fun p1 t1 => okP p1 (t1 ++ [(o, 0)])) = some r) (hp : p < p0) (hp0 : p0 ≤ T) (hm : ltM m ≤ 1) : PosR T p m r := by
  rcases bnd_of h with ⟨q, e, rfl⟩ | ⟨p1, t1, e, h⟩
  · have i1 := ih _ _ _ _ e hp0
    unfold PosR at i1 ⊢
    simp only at i1 ⊢
    omega
  · have i1 := ih _ _ _ _ e hp0
    cases h
    unfold PosR at i1 ⊢
    simp only [List.length_append, List.length_cons, List.length_nil] at i1 ⊢
    omega
theorem posE {m q : Nat} {r : PR} (h : erP q = some r) (h1 : p ≤ q) (h2 : q ≤ T) : PosR T p m r := by
  cases h
  exact ⟨h1, h2⟩
theorem ltM1 (m : Nat) : ltM m ≤ 1 := by
  unfold ltM
  split <;> omega
theorem pr_pos : ∀ n m k p r, pr B T n m k p = some r → p ≤ T → PosR T p m r := by
  intro n
  induction n with
  | zero =>
    intro m k p r h
    unfold pr at h
    cases h
  | succ n ih =>
    intro m k p r h hp
    have hs := sk_le (B := B) hp
    have hm : (m = 7 ∨ 11 ≤ m) ∨ m = 0 ∨ m = 1 ∨ m = 2 ∨ m = 3 ∨ m = 4 ∨ m = 5 ∨ m = 6 ∨ m = 8 ∨ m = 9 ∨ m = 10 := by omega
    rcases hm with hm | rfl | rfl | rfl | rfl | rfl | rfl | rfl | rfl | rfl | rfl
    · rw [prEN hm] at h
      cases h
    · rw [prE0] at h
      exact pos2 (x := fun t1 t2 => t1 ++ t2) ih h (Nat.le_refl _) hp (fun t1 t2 => by rw [List.length_append]; omega) (by unfold ltM; simp)
    · rw [prE1] at h
      split at h
      · next o e =>
        have := opS_lt e
        exact pos2 (x := fun t1 t2 => t1 ++ (o, 0) :: t2) ih h (by omega) (by omega) (fun t1 t2 => by rw [List.length_append, List.length_cons]; omega) (by unfold ltM; simp; omega)
      · cases h
        exact ⟨by unfold ltM; simp; omega, hs.2, by simp; omega⟩
    · rw [prE2] at h
      exact pos2 (x := fun t1 t2 => t1 ++ t2) ih h (Nat.le_refl _) hp (fun t1 t2 => by rw [List.length_append]; omega) (by unfold ltM; simp)
    · rw [prE3] at h
      split at h
      · next o e =>
        have := opT_lt e
        exact pos2 (x := fun t1 t2 => t1 ++ (o, 0) :: t2) ih h (by omega) (by omega) (fun t1 t2 => by rw [List.length_append, List.length_cons]; omega) (by unfold ltM; simp; omega)
      · cases h
        exact ⟨by unfold ltM; simp; omega, hs.2, by simp; omega⟩
    · rw [prE4] at h
      split at h
      · next hd =>
        have h1 := dgc_pos hd
        have h2 := dgc_T (B := B) 5 (sk B T p) hs.2
        split at h
        · exact posE h (by omega) (by omega)
        · cases h
          exact ⟨by unfold ltM; simp; omega, h2, by simp; omega⟩
      · split at h
        · next l e =>
          have := (ltO_lt e).1
          cases h
          exact ⟨by unfold ltM; simp; omega, by omega, by simp; omega⟩
        · split at h
          · next e =>
            have := sg_lt (by omega) e.1
            exact posB ih h (by omega) (by omega) (by omega) (ltM1 _)
          · exact posE h hs.1 hs.2
    · rw [prE5] at h
      exact pos3 (x := fun t1 t2 t3 => t1 ++ t2 ++ t3) ih h (Nat.le_refl _) hp (fun t1 t2 t3 => by rw [List.length_append, List.length_append]; omega) (by unfold ltM; simp)
    · rw [prE6] at h
      split at h
      · next e =>
        have := sg_lt (by omega) e
        exact pos3 (x := fun t1 t2 t3 => t1 ++ t2 ++ (11, 0) :: t3) ih h (by omega) (by omega) (fun t1 t2 t3 => by rw [List.length_append, List.length_append, List.length_cons]; omega) (by unfold ltM; simp; omega)
      · cases h
        exact ⟨by unfold ltM; simp; omega, hs.2, by simp; omega⟩
    · rw [prE8] at h
      split at h
      · next e =>
        have := sg_lt (by omega) e
        exact pos2 (x := fun t1 t2 => t1 ++ (10, 0) :: t2) ih h (by omega) (by omega) (fun t1 t2 => by rw [List.length_append, List.length_cons]; omega) (by unfold ltM; simp; omega)
      · cases h
        exact ⟨by unfold ltM; simp; omega, hs.2, by simp; omega⟩
    · rw [prE9] at h
      split at h
      · next e =>
        have := sg_lt (by omega) e
        split at h
        · exact posO ih h (by omega) (by omega) (ltM1 _)
        · exact posE h hs.1 hs.2
      · split at h
        · next e =>
          have := sg_lt (by omega) e
          split at h
          · exact posB ih h (by omega) (by omega) (by omega) (ltM1 _)
          · exact posE h hs.1 hs.2
        · exact pos2 (x := fun t1 t2 => t1 ++ t2) ih h hs.1 hs.2 (fun t1 t2 => by rw [List.length_append]; omega) (by unfold ltM; simp; omega)
    · rw [prE10] at h
      split at h
      · next o e =>
        have := opC_lt e
        exact posO ih h (by omega) (by omega) (ltM1 _)
      · exact posE h hs.1 hs.2
end P1
