-- deps: 9n.loop
/-! ===== constructors, by computation: memory as data ===== -/
abbrev dM : Type := List (Nat × Nat) × Nat × Nat × List (Nat × Nat × Int32) × List (Nat × Nat × Option Nat)
def lkW {α : Type} (f : Nat → Nat → α) : List (Nat × Nat × α) → Nat → Nat → α
  | [] => f
  | (a, k, x) :: t => aU (lkW f t) a k x
def mkC (b : aM) (c : dM) : aM := (b.1 ++ c.1.reverse, b.2.1 + c.2.2.1, lkW b.2.2.1 c.2.2.2.1, b.2.2.2.1, lkW b.2.2.2.2 c.2.2.2.2)
def WfD (c : dM) : Prop := c.2.1 = c.1.length ∧ (∀ e ∈ c.2.2.2.1, e.1 < 32 + c.2.1) ∧ ∀ e ∈ c.2.2.2.2, e.1 < 32 + c.2.1
def WfB (b : aM) : Prop := b.1.length = 32 ∧ (∀ a k, 32 ≤ a → b.2.2.1 a k = 0) ∧ (∀ a k, 32 ≤ a → b.2.2.2.1 a k = 0) ∧ ∀ a k, 32 ≤ a → b.2.2.2.2 a k = none
theorem lkW_no {α : Type} {f : Nat → Nat → α} {a k : Nat} : ∀ {l : List (Nat × Nat × α)}, (∀ e ∈ l, e.1 < a) → lkW f l a k = f a k
  | [], _ => rfl
  | (x, j, v) :: t, h => by
    have h1 := h (x, j, v) (List.mem_cons_self ..)
    unfold lkW aU
    rw [if_neg (by omega)]
    exact lkW_no (fun e he => h e (List.mem_cons_of_mem _ he))
theorem lkW_app {α : Type} {f : Nat → Nat → α} : ∀ {l r : List (Nat × Nat × α)}, lkW f (l ++ r) = lkW (lkW f r) l
  | [], _ => rfl
  | (x, j, v) :: t, r => by
    show aU (lkW f (t ++ r)) x j v = aU (lkW (lkW f r) t) x j v
    rw [lkW_app]
theorem lkW_rng {A B a k : Nat} : ∀ {N : Nat} {f : Nat → Nat → Option Nat}, lkW f ((List.range N).map fun j => (A, j, some (B + j))) a k = if a = A ∧ k < N then some (B + k) else f a k
  | 0, f => by
    rw [if_neg (by omega)]
    rfl
  | N + 1, f => by
    rw [List.range_succ, List.map_append, lkW_app, lkW_rng]
    show (if a = A ∧ k < N then some (B + k) else (if a = A ∧ k = N then some (B + N) else f a k)) = _
    by_cases h1 : a = A
    · by_cases h2 : k < N
      · rw [if_pos ⟨h1, h2⟩, if_pos ⟨h1, by omega⟩]
      · by_cases h3 : k = N
        · subst h3
          rw [if_neg (by omega), if_pos ⟨h1, rfl⟩, if_pos ⟨h1, by omega⟩]
        · rw [if_neg (by omega), if_neg (by omega), if_neg (by omega)]
    · rw [if_neg (by omega), if_neg (by omega), if_neg (by omega)]
theorem mkC_len {b : aM} {c : dM} (wb : WfB b) (wc : WfD c) : (mkC b c).1.length = 32 + c.2.1 := by
  show (b.1 ++ c.1.reverse).length = _
  rw [List.length_append, List.length_reverse, wb.1, wc.1]
def cSh (c : dM) (a : Nat) : Option (Nat × Nat) := if 32 ≤ a ∧ a < 32 + c.2.1 then c.1[c.2.1 - 1 - (a - 32)]? else none
theorem cSh_ok {b : aM} {c : dM} {a : Nat} {s : Nat × Nat} (wb : WfB b) (wc : WfD c) (h : cSh c a = some s) : (mkC b c).1[a]? = some s ∧ 32 ≤ a ∧ a < 32 + c.2.1 := by
  unfold cSh at h
  split at h
  · next q =>
    refine ⟨?_, q.1, q.2⟩
    show (b.1 ++ c.1.reverse)[a]? = _
    rw [List.getElem?_append_right (by rw [wb.1]; exact q.1), List.getElem?_reverse (by rw [wb.1, ← wc.1]; omega), wb.1, ← wc.1]
    exact h
  · cases h
def cNew (c : dM) (s : Nat × Nat) : dM := (s :: c.1, c.2.1 + 1, c.2.2.1 + s.2, c.2.2.2.1, c.2.2.2.2)
theorem aRow_id {α : Type} {f : Nat → Nat → α} {a : Nat} {r : Nat → α} (h : ∀ j, f a j = r j) : aRow f a r = f := by
  funext x j
  unfold aRow
  split
  · next e =>
    rw [e, h]
  · rfl
theorem mkC_new {b : aM} {c : dM} {s : Nat × Nat} (wb : WfB b) (wc : WfD c) : aNew (mkC b c) s = mkC b (cNew c s) := by
  have hl := mkC_len wb wc
  unfold aNew
  rw [hl]
  unfold mkC cNew
  rw [aRow_id (f := lkW b.2.2.1 c.2.2.2.1) (fun j => (lkW_no wc.2.1).trans (wb.2.1 _ _ (by omega))), aRow_id (f := b.2.2.2.1) (fun j => wb.2.2.1 _ _ (by omega)), aRow_id (f := lkW b.2.2.2.2 c.2.2.2.2) (fun j => (lkW_no wc.2.2).trans (wb.2.2.2 _ _ (by omega))), List.reverse_cons, List.append_assoc, Nat.add_assoc]
theorem wf_new {c : dM} {s : Nat × Nat} (wc : WfD c) : WfD (cNew c s) := by
  obtain ⟨w1, w2, w3⟩ := wc
  refine ⟨?_, fun e he => ?_, fun e he => ?_⟩
  · show c.2.1 + 1 = (s :: c.1).length
    rw [List.length_cons, w1]
  · have := w2 e he
    show e.1 < 32 + (c.2.1 + 1)
    omega
  · have := w3 e he
    show e.1 < 32 + (c.2.1 + 1)
    omega
def cMul (c : dM) (N M : Nat) : dM := (List.replicate N (100, M) ++ (104, N) :: c.1, c.2.1 + N + 1, c.2.2.1 + N + N * M, c.2.2.2.1, ((List.range N).map fun j => (32 + c.2.1, j, some (32 + c.2.1 + 1 + j))) ++ c.2.2.2.2)
theorem mkC_mul {b : aM} {c : dM} {N M : Nat} (wb : WfB b) (wc : WfD c) : aMul (mkC b c) 104 100 N M = mkC b (cMul c N M) := by
  have hl := mkC_len wb wc
  unfold aMul
  rw [hl]
  unfold mkC cMul
  refine Prod.ext ?_ (Prod.ext ?_ (Prod.ext ?_ (Prod.ext ?_ ?_)))
  · simp [List.append_assoc]
  · show b.2.1 + c.2.2.1 + N + N * M = b.2.1 + (c.2.2.1 + N + N * M)
    omega
  · funext x j
    show (if 32 + c.2.1 ≤ x then 0 else lkW b.2.2.1 c.2.2.2.1 x j) = lkW b.2.2.1 c.2.2.2.1 x j
    split
    · rw [lkW_no (fun e he => Nat.lt_of_lt_of_le (wc.2.1 e he) (by assumption)), wb.2.1 _ _ (by omega)]
    · rfl
  · funext x j
    show (if 32 + c.2.1 ≤ x then 0 else b.2.2.2.1 x j) = b.2.2.2.1 x j
    split
    · rw [wb.2.2.1 _ _ (by omega)]
    · rfl
  · funext x j
    show (if 32 + c.2.1 ≤ x then (if x = 32 + c.2.1 ∧ j < N then some (32 + c.2.1 + 1 + j) else none) else lkW b.2.2.2.2 c.2.2.2.2 x j) = lkW b.2.2.2.2 (((List.range N).map fun j => (32 + c.2.1, j, some (32 + c.2.1 + 1 + j))) ++ c.2.2.2.2) x j
    rw [lkW_app, lkW_rng]
    split
    · split
      · rfl
      · rw [lkW_no (fun e he => Nat.lt_of_lt_of_le (wc.2.2 e he) (by assumption)), wb.2.2.2 _ _ (by omega)]
    · rw [if_neg (by omega)]
theorem wf_mul {c : dM} {N M : Nat} (wc : WfD c) : WfD (cMul c N M) := by
  obtain ⟨w1, w2, w3⟩ := wc
  refine ⟨?_, fun e he => ?_, fun e he => ?_⟩
  · show c.2.1 + N + 1 = (List.replicate N (100, M) ++ (104, N) :: c.1).length
    rw [List.length_append, List.length_replicate, List.length_cons, w1]
    omega
  · have := w2 e he
    show e.1 < 32 + (c.2.1 + N + 1)
    omega
  · show e.1 < 32 + (c.2.1 + N + 1)
    rcases List.mem_append.mp he with h | h
    · obtain ⟨j, hj, rfl⟩ := List.mem_map.mp h
      show 32 + c.2.1 < _
      omega
    · have := w3 e h
      omega
