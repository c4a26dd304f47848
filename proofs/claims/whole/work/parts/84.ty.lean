-- deps: 83.fuel
/-! ===== what is read is well made ===== -/
def tyL : List Tk → List Bool → Option (List Bool)
  | [], s => some s
  | t :: ts, s => (tstep (nI t.1) s).bind (tyL ts)
theorem tyL_app : ∀ (a b : List Tk) (s : List Bool), tyL (a ++ b) s = (tyL a s).bind (tyL b)
  | [], b, s => rfl
  | t :: a, b, s => by
    rw [List.cons_append, tyL, tyL]
    cases tstep (nI t.1) s with
    | none => rfl
    | some s' => exact tyL_app a b s'
def tkG (t : Tk) : Prop := (t.1 = 0 ∧ t.2 ≤ 9999) ∨ (t.1 = 1 ∧ t.2 < 6) ∨ (2 ≤ t.1 ∧ t.1 ≤ 11)
def kM : Nat → Nat
  | 0 => 3
  | 1 => 3
  | 2 => 2
  | 3 => 2
  | 4 => 1
  | 5 => 6
  | 6 => 6
  | 8 => 5
  | 9 => 4
  | _ => 4
/-- kinds ahead of and behind a reading -/
def bfM : Nat → List Bool → List Bool
  | 1, s => false :: s
  | 3, s => false :: s
  | 6, s => true :: s
  | 8, s => true :: s
  | 10, s => false :: s
  | _, s => s
def afM : Nat → List Bool → List Bool
  | 5, s => true :: s
  | 6, s => true :: s
  | 8, s => true :: s
  | 9, s => true :: s
  | 10, s => true :: s
  | _, s => false :: s
section Y2
variable {B : Nat → Nat} {T : Nat}
theorem dgc_dig : ∀ n q j, j < dgc B T q n → q + j < T ∧ isD (B (q + j)) = true
  | 0, q, j, h => by
    rw [dgc] at h
    omega
  | n + 1, q, j, h => by
    rw [dgc] at h
    split at h
    · next h1 =>
      cases j with
      | zero => exact h1
      | succ j =>
        have := dgc_dig n (q + 1) j (by omega)
        rw [show q + (j + 1) = q + 1 + j by omega]
        exact this
    · omega
theorem vl_le {n q : Nat} : ∀ j, j ≤ dgc B T q n → vlD B q j + 1 ≤ 10 ^ j
  | 0, _ => Nat.le_refl _
  | j + 1, h => by
    have h1 := vl_le (n := n) (q := q) j (by omega)
    have h2 := isD_b (dgc_dig (B := B) (T := T) n q j (by omega)).2
    rw [vlD, Nat.pow_succ]
    omega
def TyR (m e : Nat) (r : PR) : Prop := match r with
  | .inl _ => True
  | .inr (_, t) => (∀ u ∈ t, tkG u) ∧ ∀ s : List Bool, s.length + 4 * (7 - e) + kM m ≤ 60 → tyL t (bfM m s) = some (afM m s)
theorem ty_op {o : Nat} (h : 2 ≤ o ∧ o ≤ 5) (s : List Bool) : tstep (nI o) (false :: false :: s) = some (false :: s) := by
  have : o = 2 ∨ o = 3 ∨ o = 4 ∨ o = 5 := by omega
  rcases this with rfl | rfl | rfl | rfl <;> rfl
theorem opS_o {b o : Nat} (h : opS b = some o) : 2 ≤ o ∧ o ≤ 5 := by
  unfold opS at h
  repeat' split at h
  all_goals first
    | (cases h; done)
    | (cases h; omega)
theorem opT_o {b o : Nat} (h : opT b = some o) : 2 ≤ o ∧ o ≤ 5 := by
  unfold opT at h
  repeat' split at h
  all_goals first
    | (cases h; done)
    | (cases h; omega)
theorem opC_o {b o : Nat} (h : opC b = some o) : o = 6 ∨ o = 7 ∨ o = 8 := by
  unfold opC at h
  repeat' split at h
  all_goals first
    | (cases h; done)
    | (cases h; omega)
theorem mem2 {a b : List Tk} {u : Tk} (h : u ∈ a ++ b) (ha : ∀ u ∈ a, tkG u) (hb : ∀ u ∈ b, tkG u) : tkG u := by
  rw [List.mem_append] at h
  rcases h with h | h
  · exact ha u h
  · exact hb u h
theorem memc {x : Tk} {b : List Tk} (hx : tkG x) (hb : ∀ u ∈ b, tkG u) : ∀ u ∈ x :: b, tkG u := by
  intro u hu
  rw [List.mem_cons] at hu
  rcases hu with rfl | hu
  · exact hx
  · exact hb u hu
theorem tyc {x : Tk} {b : List Tk} {s s' : List Bool} (h : tstep (nI x.1) s = some s') : tyL (x :: b) s = tyL b s' := by
  rw [tyL, h]
  rfl
theorem pr_ty : ∀ n m e p r, pr B T n m e p = some r → e ≤ 6 → TyR m e r := by
  intro n
  induction n with
  | zero =>
    intro m e p r h
    unfold pr at h
    cases h
  | succ n ih =>
    intro m e p r h he
    have hm : (m = 7 ∨ 11 ≤ m) ∨ m = 0 ∨ m = 1 ∨ m = 2 ∨ m = 3 ∨ m = 4 ∨ m = 5 ∨ m = 6 ∨ m = 8 ∨ m = 9 ∨ m = 10 := by omega
    rcases hm with hm | rfl | rfl | rfl | rfl | rfl | rfl | rfl | rfl | rfl | rfl
    · rw [prEN hm] at h
      cases h
    · rw [prE0] at h
      rcases bnd_of h with ⟨q, e1, rfl⟩ | ⟨p1, t1, e1, h⟩
      · trivial
      · rcases bnd_of h with ⟨q, e2, rfl⟩ | ⟨p2, t2, e2, h⟩
        · trivial
        · cases h
          obtain ⟨a1, a2⟩ := ih _ _ _ _ e1 he
          obtain ⟨b1, b2⟩ := ih _ _ _ _ e2 he
          refine ⟨fun u hu => mem2 hu a1 b1, fun s hs => ?_⟩
          have hs : s.length + 4 * (7 - e) + 3 ≤ 60 := hs
          rw [tyL_app, show tyL t1 (bfM 0 s) = _ from a2 s (show _ + 2 ≤ 60 by omega)]
          exact b2 s hs
    · rw [prE1] at h
      split at h
      · next o ho =>
        rcases bnd_of h with ⟨q, e1, rfl⟩ | ⟨p1, t1, e1, h⟩
        · trivial
        · rcases bnd_of h with ⟨q, e2, rfl⟩ | ⟨p2, t2, e2, h⟩
          · trivial
          · cases h
            obtain ⟨a1, a2⟩ := ih _ _ _ _ e1 he
            obtain ⟨b1, b2⟩ := ih _ _ _ _ e2 he
            have ho' := opS_o ho
            refine ⟨fun u hu => mem2 hu a1 (memc (Or.inr (Or.inr ⟨ho'.1, by show o ≤ 11; omega⟩)) b1), fun s hs => ?_⟩
            have hs : s.length + 4 * (7 - e) + 3 ≤ 60 := hs
            rw [tyL_app, show tyL t1 (bfM 1 s) = _ from a2 (false :: s) (show (s.length + 1) + _ + 2 ≤ 60 by omega)]
            show tyL ((o, 0) :: t2) (false :: false :: s) = _
            rw [tyc (ty_op ho' s)]
            exact b2 s hs
      · cases h
        exact ⟨fun u hu => (by cases hu), fun s _ => rfl⟩
    · rw [prE2] at h
      rcases bnd_of h with ⟨q, e1, rfl⟩ | ⟨p1, t1, e1, h⟩
      · trivial
      · rcases bnd_of h with ⟨q, e2, rfl⟩ | ⟨p2, t2, e2, h⟩
        · trivial
        · cases h
          obtain ⟨a1, a2⟩ := ih _ _ _ _ e1 he
          obtain ⟨b1, b2⟩ := ih _ _ _ _ e2 he
          refine ⟨fun u hu => mem2 hu a1 b1, fun s hs => ?_⟩
          have hs : s.length + 4 * (7 - e) + 2 ≤ 60 := hs
          rw [tyL_app, show tyL t1 (bfM 2 s) = _ from a2 s (show _ + 1 ≤ 60 by omega)]
          exact b2 s hs
    · rw [prE3] at h
      split at h
      · next o ho =>
        rcases bnd_of h with ⟨q, e1, rfl⟩ | ⟨p1, t1, e1, h⟩
        · trivial
        · rcases bnd_of h with ⟨q, e2, rfl⟩ | ⟨p2, t2, e2, h⟩
          · trivial
          · cases h
            obtain ⟨a1, a2⟩ := ih _ _ _ _ e1 he
            obtain ⟨b1, b2⟩ := ih _ _ _ _ e2 he
            have ho' := opT_o ho
            refine ⟨fun u hu => mem2 hu a1 (memc (Or.inr (Or.inr ⟨ho'.1, by show o ≤ 11; omega⟩)) b1), fun s hs => ?_⟩
            have hs : s.length + 4 * (7 - e) + 2 ≤ 60 := hs
            rw [tyL_app, show tyL t1 (bfM 3 s) = _ from a2 (false :: s) (show (s.length + 1) + _ + 1 ≤ 60 by omega)]
            show tyL ((o, 0) :: t2) (false :: false :: s) = _
            rw [tyc (ty_op ho' s)]
            exact b2 s hs
      · cases h
        exact ⟨fun u hu => (by cases hu), fun s _ => rfl⟩
    · rw [prE4] at h
      have push : ∀ c, (c = 0 ∨ c = 1) → ∀ s : List Bool, s.length < 60 → tstep (nI c) s = some (false :: s) := by
        intro c hc s hs
        rcases hc with rfl | rfl
        · unfold tstep
          rw [if_pos (show nI 0 = 0 ∨ nI 0 = 1 from Or.inl rfl), if_pos hs]
        · unfold tstep
          rw [if_pos (show nI 1 = 0 ∨ nI 1 = 1 from Or.inr rfl), if_pos hs]
      split at h
      · split at h
        · cases h
          trivial
        · next h5 =>
          cases h
          have d4 := dgc_le (B := B) (T := T) 5 (sk B T p)
          have hv := vl_le (B := B) (T := T) (n := 5) (q := sk B T p) _ (Nat.le_refl _)
          have p10 : (10 : Nat) ^ dgc B T (sk B T p) 5 ≤ 10 ^ 4 := Nat.pow_le_pow_right (by omega) (by omega)
          refine ⟨fun u hu => ?_, fun s hs => ?_⟩
          · rw [List.mem_singleton] at hu
            subst hu
            exact Or.inl ⟨rfl, by show vlD B _ _ ≤ 9999; omega⟩
          · have hs : s.length + 4 * (7 - e) + 1 ≤ 60 := hs
            rw [tyc (push 0 (Or.inl rfl) s (by omega))]
            rfl
      · split at h
        · next l hl =>
          cases h
          refine ⟨fun u hu => ?_, fun s hs => ?_⟩
          · rw [List.mem_singleton] at hu
            subst hu
            exact Or.inr (Or.inl ⟨rfl, (ltO_lt hl).2⟩)
          · have hs : s.length + 4 * (7 - e) + 1 ≤ 60 := hs
            rw [tyc (push 1 (Or.inr rfl) s (by omega))]
            rfl
        · split at h
          · next hb =>
            rcases bnd_of h with ⟨q, e1, rfl⟩ | ⟨p1, t1, e1, h⟩
            · trivial
            · obtain ⟨a1, a2⟩ := ih _ _ _ _ e1 (by omega)
              split at h
              · cases h
                refine ⟨a1, fun s hs => ?_⟩
                have hs : s.length + 4 * (7 - e) + 1 ≤ 60 := hs
                exact a2 s (show _ + _ + 3 ≤ 60 by omega)
              · cases h
                trivial
          · cases h
            trivial
    · rw [prE5] at h
      rcases bnd_of h with ⟨q, e1, rfl⟩ | ⟨p1, t1, e1, h⟩
      · trivial
      · rcases bnd_of h with ⟨q, e2, rfl⟩ | ⟨p2, t2, e2, h⟩
        · trivial
        · rcases bnd_of h with ⟨q, e3, rfl⟩ | ⟨p3, t3, e3, h⟩
          · trivial
          · cases h
            obtain ⟨a1, a2⟩ := ih _ _ _ _ e1 he
            obtain ⟨b1, b2⟩ := ih _ _ _ _ e2 he
            obtain ⟨c1, c2⟩ := ih _ _ _ _ e3 he
            refine ⟨fun u hu => mem2 hu (fun u hu => mem2 hu a1 b1) c1, fun s hs => ?_⟩
            have hs : s.length + 4 * (7 - e) + 6 ≤ 60 := hs
            rw [tyL_app, tyL_app, show tyL t1 (bfM 5 s) = _ from a2 s (show _ + 4 ≤ 60 by omega)]
            show (tyL t2 (true :: s)).bind (tyL t3) = _
            rw [show tyL t2 (true :: s) = _ from b2 s (show _ + 5 ≤ 60 by omega)]
            exact c2 s hs
    · rw [prE6] at h
      split at h
      · rcases bnd_of h with ⟨q, e1, rfl⟩ | ⟨p1, t1, e1, h⟩
        · trivial
        · rcases bnd_of h with ⟨q, e2, rfl⟩ | ⟨p2, t2, e2, h⟩
          · trivial
          · rcases bnd_of h with ⟨q, e3, rfl⟩ | ⟨p3, t3, e3, h⟩
            · trivial
            · cases h
              obtain ⟨a1, a2⟩ := ih _ _ _ _ e1 he
              obtain ⟨b1, b2⟩ := ih _ _ _ _ e2 he
              obtain ⟨c1, c2⟩ := ih _ _ _ _ e3 he
              refine ⟨fun u hu => mem2 hu (fun u hu => mem2 hu a1 b1) (memc (Or.inr (Or.inr ⟨by show 2 ≤ 11; omega, by show 11 ≤ 11; omega⟩)) c1), fun s hs => ?_⟩
              have hs : s.length + 4 * (7 - e) + 6 ≤ 60 := hs
              rw [tyL_app, tyL_app, show tyL t1 (bfM 6 s) = _ from a2 (true :: s) (show (s.length + 1) + _ + 4 ≤ 60 by omega)]
              show (tyL t2 (true :: true :: s)).bind (tyL ((11, 0) :: t3)) = _
              rw [show tyL t2 (true :: true :: s) = _ from b2 (true :: s) (show (s.length + 1) + _ + 5 ≤ 60 by omega)]
              show tyL ((11, 0) :: t3) (true :: true :: s) = _
              rw [tyc (s' := true :: s) rfl]
              exact c2 s hs
      · cases h
        exact ⟨fun u hu => (by cases hu), fun s _ => rfl⟩
    · rw [prE8] at h
      split at h
      · rcases bnd_of h with ⟨q, e1, rfl⟩ | ⟨p1, t1, e1, h⟩
        · trivial
        · rcases bnd_of h with ⟨q, e2, rfl⟩ | ⟨p2, t2, e2, h⟩
          · trivial
          · cases h
            obtain ⟨a1, a2⟩ := ih _ _ _ _ e1 he
            obtain ⟨b1, b2⟩ := ih _ _ _ _ e2 he
            refine ⟨fun u hu => mem2 hu a1 (memc (Or.inr (Or.inr ⟨by show 2 ≤ 10; omega, by show 10 ≤ 11; omega⟩)) b1), fun s hs => ?_⟩
            have hs : s.length + 4 * (7 - e) + 5 ≤ 60 := hs
            rw [tyL_app, show tyL t1 (bfM 8 s) = _ from a2 (true :: s) (show (s.length + 1) + _ + 4 ≤ 60 by omega)]
            show tyL ((10, 0) :: t2) (true :: true :: s) = _
            rw [tyc (s' := true :: s) rfl]
            exact b2 s hs
      · cases h
        exact ⟨fun u hu => (by cases hu), fun s _ => rfl⟩
    · rw [prE9] at h
      split at h
      · split at h
        · rcases bnd_of h with ⟨q, e1, rfl⟩ | ⟨p1, t1, e1, h⟩
          · trivial
          · cases h
            obtain ⟨a1, a2⟩ := ih _ _ _ _ e1 (by omega)
            refine ⟨fun u hu => mem2 hu a1 (memc (Or.inr (Or.inr ⟨by show 2 ≤ 9; omega, by show 9 ≤ 11; omega⟩)) (fun u hu => by cases hu)), fun s hs => ?_⟩
            have hs : s.length + 4 * (7 - e) + 4 ≤ 60 := hs
            rw [tyL_app, show tyL t1 (bfM 9 s) = _ from a2 s (show _ + _ + 4 ≤ 60 by omega)]
            rfl
        · cases h
          trivial
      · split at h
        · split at h
          · rcases bnd_of h with ⟨q, e1, rfl⟩ | ⟨p1, t1, e1, h⟩
            · trivial
            · obtain ⟨a1, a2⟩ := ih _ _ _ _ e1 (by omega)
              split at h
              · cases h
                refine ⟨a1, fun s hs => ?_⟩
                have hs : s.length + 4 * (7 - e) + 4 ≤ 60 := hs
                exact a2 s (show _ + _ + 6 ≤ 60 by omega)
              · cases h
                trivial
          · cases h
            trivial
        · rcases bnd_of h with ⟨q, e1, rfl⟩ | ⟨p1, t1, e1, h⟩
          · trivial
          · rcases bnd_of h with ⟨q, e2, rfl⟩ | ⟨p2, t2, e2, h⟩
            · trivial
            · cases h
              obtain ⟨a1, a2⟩ := ih _ _ _ _ e1 he
              obtain ⟨b1, b2⟩ := ih _ _ _ _ e2 he
              refine ⟨fun u hu => mem2 hu a1 b1, fun s hs => ?_⟩
              have hs : s.length + 4 * (7 - e) + 4 ≤ 60 := hs
              rw [tyL_app, show tyL t1 (bfM 9 s) = _ from a2 s (show _ + 3 ≤ 60 by omega)]
              exact b2 s hs
    · rw [prE10] at h
      split at h
      · next o ho =>
        rcases bnd_of h with ⟨q, e1, rfl⟩ | ⟨p1, t1, e1, h⟩
        · trivial
        · cases h
          obtain ⟨a1, a2⟩ := ih _ _ _ _ e1 he
          have ho' := opC_o ho
          refine ⟨fun u hu => mem2 hu a1 (memc (Or.inr (Or.inr ⟨by show 2 ≤ o; omega, by show o ≤ 11; omega⟩)) (fun u hu => by cases hu)), fun s hs => ?_⟩
          have hs : s.length + 4 * (7 - e) + 4 ≤ 60 := hs
          rw [tyL_app, show tyL t1 (bfM 10 s) = _ from a2 (false :: s) (show (s.length + 1) + _ + 3 ≤ 60 by omega)]
          rcases ho' with rfl | rfl | rfl <;> rfl
      · cases h
        trivial
end Y2
