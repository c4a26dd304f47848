-- deps: 88.mls2
/-! ===== laws as texts: the whole law ===== -/
abbrev LR : Type := Nat ⊕ (List Tk × List Cl)
def nwC (ts t1 t2 : List Tk) (cs : List Cl) : List Cl := cs ++ [(ts.length, ts.length + t1.length, ts.length + t1.length + t2.length)]
def lwG (B : Nat → Nat) (T n : Nat) : Nat → Nat → List Tk → List Cl → Option LR
  | 0, _, _, _ => none
  | f + 1, p, ts, cs => match clG B T n p with
    | none => none
    | some (.inl q) => some (.inl q)
    | some (.inr (p1, t1, t2)) => if T ≤ sk B T p1 then some (.inr (ts ++ (t1 ++ t2), nwC ts t1 t2 cs)) else if sgB B T (sk B T p1) = 59 then lwG B T n f (sk B T p1 + 1) (ts ++ (t1 ++ t2)) (nwC ts t1 t2 cs) else some (.inl (sk B T p1))
def afG (B : Nat → Nat) (T n f p1 : Nat) (ts : List Tk) (cs : List Cl) : Option LR := if T ≤ sk B T p1 then some (.inr (ts, cs)) else if sgB B T (sk B T p1) = 59 then lwG B T n f (sk B T p1 + 1) ts cs else some (.inl (sk B T p1))
def CpR (T p : Nat) (r : ClR) : Prop := match r with
  | .inl q => q ≤ T
  | .inr (p', t1, t2) => p + 3 ≤ p' ∧ p' ≤ T ∧ (t1 ++ t2).length + p ≤ p'
def CtR (r : ClR) : Prop := match r with
  | .inl _ => True
  | .inr (_, t1, t2) => (∀ u ∈ t1 ++ t2, tkG u) ∧ (t1 = [] ∨ tyL t1 [] = some [true]) ∧ tyL t2 [] = some [false]
section L1
variable {B : Nat → Nat} {T n p : Nat} {ts t1 : List Tk} {cs : List Cl}
theorem bnc_ex {x : Option PR} {f : Nat → List Tk → Option ClR} (h1 : ∃ r, x = some r) (h2 : ∀ p t, x = some (.inr (p, t)) → ∃ r, f p t = some r) : ∃ r, bnc x f = some r := by
  obtain ⟨r, rfl⟩ := h1
  cases r with
  | inl q => exact ⟨.inl q, rfl⟩
  | inr y =>
    obtain ⟨p, t⟩ := y
    exact h2 p t rfl
theorem rkM5 (m : Nat) : rkM m ≤ 5 := by
  unfold rkM
  split <;> omega
theorem pr_x {m : Nat} (hn : 6 * T + 5 ≤ n) (hm : m < 7 ∨ m = 8 ∨ m = 9 ∨ m = 10) (hp : p ≤ T) : ∃ r, pr B T n m 0 p = some r := pr_ex B T n m 0 p hm hp (by have := rkM5 m; omega)
theorem pr_le {m p1 : Nat} {t : List Tk} (h : pr B T n m 0 p = some (.inr (p1, t))) (hp : p ≤ T) : p + ltM m ≤ p1 ∧ p1 ≤ T ∧ t.length + p ≤ p1 := pr_pos _ _ _ _ _ h hp
theorem pr_er {m q : Nat} (h : pr B T n m 0 p = some (.inl q)) (hp : p ≤ T) : q ≤ T := (pr_pos _ _ _ _ _ h hp).2
theorem bhG_ex (hn : 6 * T + 5 ≤ n) (hp : p ≤ T) : ∃ r, bhG B T n p t1 = some r := by
  have hs := sk_le (B := B) hp
  unfold bhG
  split
  · next e =>
    have := sg_lt (by omega) e
    exact bnc_ex (pr_x hn (by omega) (by omega)) (fun p2 t2 _ => ⟨_, rfl⟩)
  · exact ⟨_, rfl⟩
theorem clG_ex (hn : 6 * T + 5 ≤ n) (hp : p ≤ T) : ∃ r, clG B T n p = some r := by
  have hs := sk_le (B := B) hp
  unfold clG
  split
  · next e1 =>
    have h1 := sg_lt (by omega) e1
    have hs1 := sk_le (B := B) (T := T) (p := sk B T p + 1) (by omega)
    split
    · next e2 =>
      have h2 := sg_lt (by omega) e2
      have hs2 := sk_le (B := B) (T := T) (p := sk B T (sk B T p + 1) + 1) (by omega)
      unfold bdG
      split
      · refine bnc_ex (pr_x hn (by omega) hs2.2) (fun p1 t1 e => ?_)
        exact bhG_ex hn (pr_le e hs2.2).2.1
      · refine bnc_ex (pr_x hn (by omega) hs2.2) (fun p1 t1 e => ?_)
        have h3 := pr_le e hs2.2
        have hs3 := sk_le (B := B) h3.2.1
        unfold mrG
        split
        · exact ⟨_, rfl⟩
        · refine bnc_ex (pr_x hn (by omega) hs3.2) (fun p2 t2 e => ?_)
          have h4 := pr_le e hs3.2
          refine bnc_ex (pr_x hn (by omega) h4.2.1) (fun p3 t3 e => ?_)
          have h5 := pr_le e h4.2.1
          refine bnc_ex (pr_x hn (by omega) h5.2.1) (fun p4 t4 e => ?_)
          exact bhG_ex hn (pr_le e h5.2.1).2.1
    · exact ⟨_, rfl⟩
  · exact ⟨_, rfl⟩
theorem bhG_pos {r : ClR} {p0 : Nat} (h : bhG B T n p t1 = some r) (hp : p ≤ T) (h0 : p0 + 3 ≤ p) (hl : t1.length + p0 ≤ p) : CpR T p0 r := by
  have hs := sk_le (B := B) hp
  unfold bhG at h
  split at h
  · next e =>
    have := sg_lt (by omega) e
    rcases bnc_of h with ⟨q, e1, rfl⟩ | ⟨p2, t2, e1, h⟩
    · exact pr_er e1 (by omega)
    · cases h
      have i1 := pr_le e1 (by omega)
      refine ⟨by omega, i1.2.1, ?_⟩
      rw [List.length_append]
      omega
  · cases h
    exact hs.2
theorem clG_pos {r : ClR} (h : clG B T n p = some r) (hp : p ≤ T) : CpR T p r := by
  have hs := sk_le (B := B) hp
  unfold clG at h
  split at h
  · next e1 =>
    have h1 := sg_lt (by omega) e1
    have hs1 := sk_le (B := B) (T := T) (p := sk B T p + 1) (by omega)
    split at h
    · next e2 =>
      have h2 := sg_lt (by omega) e2
      have hs2 := sk_le (B := B) (T := T) (p := sk B T (sk B T p + 1) + 1) (by omega)
      unfold bdG at h
      split at h
      · rcases bnc_of h with ⟨q, e1, rfl⟩ | ⟨p1, t1, e1, h⟩
        · exact pr_er e1 hs2.2
        · have i1 := pr_le e1 hs2.2
          have i2 : ltM 5 = 1 := rfl
          exact bhG_pos h i1.2.1 (by omega) (by omega)
      · rcases bnc_of h with ⟨q, e1, rfl⟩ | ⟨p1, t1, e1, h⟩
        · exact pr_er e1 hs2.2
        · have h3 := pr_le e1 hs2.2
          have i2 : ltM 0 = 1 := rfl
          have hs3 := sk_le (B := B) h3.2.1
          unfold mrG at h
          split at h
          · cases h
            exact ⟨by omega, hs3.2, by rw [List.nil_append]; omega⟩
          · rcases bnc_of h with ⟨q, e2, rfl⟩ | ⟨p2, t2, e2, h⟩
            · exact pr_er e2 hs3.2
            · have h4 := pr_le e2 hs3.2
              rcases bnc_of h with ⟨q, e3, rfl⟩ | ⟨p3, t3, e3, h⟩
              · exact pr_er e3 h4.2.1
              · have h5 := pr_le e3 h4.2.1
                rcases bnc_of h with ⟨q, e4, rfl⟩ | ⟨p4, t4, e4, h⟩
                · exact pr_er e4 h5.2.1
                · have h6 := pr_le e4 h5.2.1
                  refine bhG_pos h h6.2.1 (by omega) ?_
                  rw [List.length_append, List.length_append, List.length_append]
                  omega
    · cases h
      exact hs1.2
  · cases h
    exact hs.2
theorem pr_t {m p1 : Nat} {t : List Tk} (h : pr B T n m 0 p = some (.inr (p1, t))) : (∀ u ∈ t, tkG u) ∧ tyL t (bfM m []) = some (afM m []) := by
  obtain ⟨a, b⟩ := pr_ty _ _ _ _ _ h (by omega)
  refine ⟨a, b [] ?_⟩
  have : kM m ≤ 6 := by
    unfold kM
    split <;> omega
  show 0 + 4 * 7 + kM m ≤ 60
  omega
theorem bhG_ty {r : ClR} (h : bhG B T n p t1 = some r) (h1 : ∀ u ∈ t1, tkG u) (h2 : t1 = [] ∨ tyL t1 [] = some [true]) : CtR r := by
  unfold bhG at h
  split at h
  · rcases bnc_of h with ⟨q, e1, rfl⟩ | ⟨p2, t2, e1, h⟩
    · trivial
    · cases h
      obtain ⟨a, b⟩ := pr_t e1
      exact ⟨fun u hu => mem2 hu h1 a, h2, b⟩
  · cases h
    trivial
theorem clG_ty {r : ClR} (h : clG B T n p = some r) : CtR r := by
  unfold clG at h
  split at h
  · split at h
    · unfold bdG at h
      split at h
      · rcases bnc_of h with ⟨q, e1, rfl⟩ | ⟨p1, t1, e1, h⟩
        · trivial
        · obtain ⟨a, b⟩ := pr_t e1
          exact bhG_ty h a (Or.inr b)
      · rcases bnc_of h with ⟨q, e1, rfl⟩ | ⟨p1, t1, e1, h⟩
        · trivial
        · obtain ⟨a1, b1⟩ := pr_t e1
          unfold mrG at h
          split at h
          · cases h
            exact ⟨fun u hu => a1 u hu, Or.inl rfl, b1⟩
          · rcases bnc_of h with ⟨q, e2, rfl⟩ | ⟨p2, t2, e2, h⟩
            · trivial
            · obtain ⟨a2, b2⟩ := pr_t e2
              rcases bnc_of h with ⟨q, e3, rfl⟩ | ⟨p3, t3, e3, h⟩
              · trivial
              · obtain ⟨a3, b3⟩ := pr_t e3
                rcases bnc_of h with ⟨q, e4, rfl⟩ | ⟨p4, t4, e4, h⟩
                · trivial
                · obtain ⟨a4, b4⟩ := pr_t e4
                  refine bhG_ty h (fun u hu => mem2 hu (fun u hu => mem2 hu (fun u hu => mem2 hu a1 a2) a3) a4) (Or.inr ?_)
                  rw [tyL_app, tyL_app, tyL_app, show tyL t1 [] = some [false] from b1]
                  show ((tyL t2 [false]).bind (tyL t3)).bind (tyL t4) = _
                  rw [show tyL t2 [false] = some [true] from b2]
                  show (tyL t3 [true]).bind (tyL t4) = _
                  rw [show tyL t3 [true] = some [true] from b3]
                  exact b4
    · cases h
      trivial
  · cases h
    trivial
theorem lwG_ex (hn : 6 * T + 5 ≤ n) : ∀ f p ts cs, p ≤ T → T < f + p → ∃ r, lwG B T n f p ts cs = some r
  | 0, p, ts, cs, hp, hf => absurd hf (by omega)
  | f + 1, p, ts, cs, hp, hf => by
    obtain ⟨r, hr⟩ := clG_ex (B := B) hn hp
    have hc := clG_pos hr hp
    unfold lwG
    rw [hr]
    cases r with
    | inl q => exact ⟨_, rfl⟩
    | inr x =>
      obtain ⟨p1, t1, t2⟩ := x
      obtain ⟨c1, c2, c3⟩ := hc
      have hs := sk_le (B := B) c2
      simp only
      split
      · exact ⟨_, rfl⟩
      · split
        · exact lwG_ex hn f _ _ _ (by omega) (by omega)
        · exact ⟨_, rfl⟩
end L1
