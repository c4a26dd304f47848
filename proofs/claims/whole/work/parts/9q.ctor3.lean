-- deps: 9p.ctor2
/-! ===== constructors, by computation: what they leave ===== -/
def dE : dM := ([], 0, 0, [], [])
def ilE : List (Nat × Nat × Int32) := [(399, 29, -1), (32, 17, -1), (342, 13, 1), (33, 3, -1)]
def oRows : List (List Int32) := [[20, 2, 8, 2, 30], [5, 1, 1, 0, 0], [30, 5, 20, 9, 99], [5, 5, 3, 1], [0, 0, 0, 0], [30, 9, 9, 9], [10, 3], [0, 0], [30, 9]]
def oTxt : List (List Int32) := [[108, 112, 119, 109, 99], [120, 118, 101, 114], [120, 100], [118, 100, 112, 109, 114, 110]]
def oSh (L : Nat) : List (Nat × Nat) := (100, L) :: ([(100, 5), (100, 5), (100, 5), (100, 4), (100, 4), (100, 4), (100, 2), (100, 2), (100, 2), (12, 2), (12, 2), (12, 2), (12, 2), (103, 5), (103, 4), (103, 2), (103, 6)] ++ List.replicate 14 (100, 5))
def oInt (xs : Nat → Int32) (i j : Nat) : Int32 := if i = 0 then xs j else if i < 10 then (oRows.getD (i - 1) []).getD j 0 else if i < 14 then 0 else if i < 18 then (oTxt.getD (i - 14) []).getD j 0 else (oRows.getD 0 []).getD j 0
def oRef (i j : Nat) : Option Nat := if 10 ≤ i ∧ i < 14 ∧ j = 0 then some (i + 4) else none
/-- the memory at the start -/
def h0 (L : Nat) (xs : Nat → Int32) : aM := (oSh L, 0, fun i j => if i < 32 then oInt xs i j else 0, fun _ _ => 0, fun i j => if i < 32 then oRef i j else none)
def chkR (rl : List (Nat × Nat × Option Nat)) : Bool := rfL.zipIdx.all (fun p => p.1.zipIdx.all (fun o => o.1.isNone || decide (lkW (fun i j => if i < 32 then oRef i j else none) rl p.2 o.2 = o.1)))
def chkS : Bool := (oSh 0).zipIdx.all (fun p => decide (shL[p.2]? = some p.1))
theorem chkS_ok : chkS = true := by decide +kernel
def chkD (c : dM) : Bool := decide (c.2.1 = 398) && decide (c.2.2.1 ≤ 100000) && decide (c.1 = (shL.drop 32).reverse) && decide (c.2.2.2.1 = ilE) && chkR c.2.2.2.2
def ctorB : Bool := match dRun 3000 20 88 0 [some (.ref 32), none] [] (cNew dE (10, 19)) with
  | some c1 => decide (c1.2.1 = 367) && (match dRun 3000 20 163 0 [some (.ref 399)] [] (cNew c1 (11, 50)) with
    | some c2 => decide (c2.2.1 = 397) && chkD (cNew c2 (101, 1))
    | none => false)
  | none => false
theorem ctorB_ok : ctorB = true := by decide +kernel
theorem ctorB_ex : ∃ c1 c2, dRun 3000 20 88 0 [some (.ref 32), none] [] (cNew dE (10, 19)) = some c1 ∧ c1.2.1 = 367 ∧ dRun 3000 20 163 0 [some (.ref 399)] [] (cNew c1 (11, 50)) = some c2 ∧ c2.2.1 = 397 ∧ chkD (cNew c2 (101, 1)) = true := by
  have h := ctorB_ok
  unfold ctorB at h
  split at h
  · next c1 e1 =>
    rw [Bool.and_eq_true] at h
    obtain ⟨q1, h⟩ := h
    split at h
    · next c2 e2 =>
      rw [Bool.and_eq_true] at h
      exact ⟨c1, c2, e1, of_decide_eq_true q1, e2, of_decide_eq_true h.1, h.2⟩
    · cases h
  · cases h
