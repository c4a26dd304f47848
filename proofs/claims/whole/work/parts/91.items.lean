-- deps: 90.lawr2
/-! ===== rides as texts: items; kinds 0 rules, 1 men, 2 fords ===== -/
def ltK (κ b : Nat) : Option Nat := if κ = 0 then (if b = 108 then some 0 else if b = 112 then some 1 else if b = 119 then some 2 else if b = 109 then some 3 else if b = 99 then some 4 else none)
  else if κ = 1 then (if b = 120 then some 0 else if b = 118 then some 1 else if b = 101 then some 2 else if b = 114 then some 3 else none)
  else (if b = 120 then some 0 else if b = 100 then some 1 else none)
def mK (κ : Nat) : Nat := if κ = 0 then 5 else if κ = 1 then 4 else 2
def loK (κ k : Nat) : Nat := (([[5, 1, 1, 0, 0], [0, 0, 0, 0], [0, 0]] : List (List Nat)).getD κ []).getD k 0
def hiK (κ k : Nat) : Nat := (([[30, 5, 20, 9, 99], [30, 9, 9, 9], [30, 9]] : List (List Nat)).getD κ []).getD k 0
def usK (κ k : Nat) : Nat := (([[20, 2, 8, 2, 30], [5, 5, 3, 1], [10, 3]] : List (List Nat)).getD κ []).getD k 0
abbrev IR : Type := Nat ⊕ (Nat × (Nat → Nat))
def upN (r : Nat → Nat) (k v : Nat) : Nat → Nat := fun j => if j = k then v else r j
/-- a number of one or two digits between bounds, from a place without blanks -/
def nmG (B : Nat → Nat) (T lo hi q : Nat) : Nat ⊕ (Nat × Nat) := if dgc B T q 3 = 0 then .inl q else if dgc B T q 3 = 3 then .inl (q + 2) else if lo ≤ vlD B q (dgc B T q 3) ∧ vlD B q (dgc B T q 3) ≤ hi then .inr (q + dgc B T q 3, vlD B q (dgc B T q 3)) else .inl (q + dgc B T q 3 - 1)
def itG (B : Nat → Nat) (T κ : Nat) : Nat → Nat → Nat → (Nat → Nat) → Option IR
  | 0, _, _, _ => none
  | f + 1, p, w, row => match ltK κ (sgB B T (sk B T p)) with
    | none => some (.inr (sk B T p, row))
    | some k => if w.testBit k = true then some (.inl (sk B T p)) else (match nmG B T (loK κ k) (hiK κ k) (sk B T (sk B T p + 1)) with
      | .inl q => some (.inl q)
      | .inr (p', v) => itG B T κ f p' (w ||| 2 ^ k) (upN row k v))
def bc (w : Nat) : Nat := (w.testBit 0).toNat + (w.testBit 1).toNat + (w.testBit 2).toNat + (w.testBit 3).toNat + (w.testBit 4).toNat
theorem bitS : ∀ w, w < 32 → ∀ k, k < 5 → (nI w >>> (nI k &&& 31)) &&& 1 = (if w.testBit k = true then 1 else 0) := by decide +kernel
theorem bitO : ∀ w, w < 32 → ∀ k, k < 5 → nI w ||| ((1 : Int32) <<< (nI k &&& 31)) = nI (w ||| 2 ^ k) := by decide +kernel
theorem bitC : ∀ w, w < 32 → ∀ k, k < 5 → w.testBit k = false → bc (w ||| 2 ^ k) = bc w + 1 := by decide +kernel
theorem bitM : ∀ κ, κ < 3 → ∀ w, w < 2 ^ mK κ → bc w ≤ mK κ ∧ w < 32 ∧ ∀ k, k < mK κ → w ||| 2 ^ k < 2 ^ mK κ ∧ (bc w = mK κ → w.testBit k = true) := by decide +kernel
theorem mK_le {κ : Nat} : mK κ ≤ 5 ∧ 2 ≤ mK κ := by
  unfold mK
  split
  · omega
  · split <;> omega
theorem ltK_lt {κ b k : Nat} (h : ltK κ b = some k) : k < mK κ ∧ 0 < b := by
  unfold ltK at h
  unfold mK
  repeat' split at h
  all_goals first
    | (cases h; done)
    | (cases h; simp_all; done)
    | (cases h; simp_all; omega)
theorem loH : ∀ κ, κ < 3 → ∀ k, k < 5 → loK κ k ≤ 99 ∧ hiK κ k ≤ 99 ∧ usK κ k ≤ 99 := by decide +kernel
theorem cnK : ∀ κ, κ < 3 → ∀ k, k < mK κ → cnI (3 * κ + 1) k = nI (usK κ k) ∧ cnI (3 * κ + 2) k = nI (loK κ k) ∧ cnI (3 * κ + 3) k = nI (hiK κ k) := by decide +kernel
theorem fdK : ∀ κ, κ < 3 → ∀ b, b < 256 → fdI (10 + κ + 4) (bB b) 0 (mK κ) = (match ltK κ b with
  | some k => nI k
  | none => -1) := by decide +kernel
theorem nmG_e {B : Nat → Nat} {T lo hi q z : Nat} (hq : q ≤ T) (h : nmG B T lo hi q = .inl z) : z ≤ T := by
  have h1 := dgc_T (B := B) 3 q hq
  have h2 := dgc_le (B := B) (T := T) 3 q
  unfold nmG at h
  split at h
  · cases h
    exact hq
  · split at h
    · cases h
      omega
    · split at h
      · cases h
      · cases h
        omega
theorem nmG_o {B : Nat → Nat} {T lo hi q p' v : Nat} (hq : q ≤ T) (h : nmG B T lo hi q = .inr (p', v)) : q < p' ∧ p' ≤ T ∧ lo ≤ v ∧ v ≤ hi := by
  have h1 := dgc_T (B := B) 3 q hq
  unfold nmG at h
  split at h
  · cases h
  · split at h
    · cases h
    · split at h
      · next h3 =>
        cases h
        exact ⟨by omega, by omega, h3.1, h3.2⟩
      · cases h
/-- the rows of letters and bounds -/
theorem kOK {h : aM} {κ : Nat} (ok : OK h) (hκ : κ < 3) : sh h (10 + κ) = some (12, 2) ∧ gr h (10 + κ) 0 = some (10 + κ + 4) ∧ sh h (10 + κ + 4) = some (103, mK κ) ∧ sh h (3 * κ + 1) = some (100, mK κ) ∧ sh h (3 * κ + 2) = some (100, mK κ) ∧ sh h (3 * κ + 3) = some (100, mK κ) := by
  have : κ = 0 ∨ κ = 1 ∨ κ = 2 := by omega
  rcases this with rfl | rfl | rfl
  · exact ⟨z10 ok, r10_0 ok, z14 ok, z1 ok, z2 ok, z3 ok⟩
  · exact ⟨z11 ok, r11_0 ok, z15 ok, z4 ok, z5 ok, z6 ok⟩
  · exact ⟨z12 ok, r12_0 ok, z16 ok, z7 ok, z8 ok, z9 ok⟩
def IX (R a k : Nat) : Prop := AtZ a k ∨ a = R
def ItC (h : aM) (B : Nat → Nat) (T p R κ : Nat) (row : Nat → Nat) : Prop := TpC h B T ∧ ICon h ∧ gi h 33 2 = nI p ∧ ∀ k, k < mK κ → gi h R k = nI (row k)
def PostI (B : Nat → Nat) (T R κ : Nat) (Q : Option Value → aM → Prop) (r : IR) (h : aM) : Prop := match r with
  | .inl q => gi h 33 3 = nI q → Q (some (.int 0)) h
  | .inr (p, row) => ItC h B T p R κ row → Q (some (.int 1)) h
section I5
variable {d : Nat} {h : aM} {Q : Option Value → aM → Prop} {B : Nat → Nat} {T p q R κ : Nat} {row : Nat → Nat}
theorem ItC.at {h' : aM} {p' : Nat} (r : ItC h B T p R κ row) (hR : 35 ≤ R) (a : Ag AtZ h h') (e : gi h' 33 2 = nI p') : ItC h' B T p' R κ row := by
  obtain ⟨r1, r2, r3, r4⟩ := r
  refine ⟨r1.ag a (by unfold AtZ; omega) (by unfold AtZ; omega), fun x j h1 h2 => ?_, e, fun k hk => ?_⟩
  · rw [a.2 _ _ (by unfold AtZ; omega)]
    exact r2 x j h1 h2
  · rw [a.2 _ _ (by unfold AtZ; omega)]
    exact r4 k hk
theorem c_placeK (tc : TpC h B T) (ic : ICon h) (hκ : κ < 3) (hq : Q (some (.int (match ltK κ (sgB B T q) with
    | some l => nI l
    | none => -1))) h) : AW (d + 5) 160 0 [some (.int (lkI B T q)), some (.ref (10 + κ))] [] h Q := by
  have ok := tc.1
  obtain ⟨k1, k2, k3, -⟩ := kOK ok hκ
  have m1 := mK_le (κ := κ)
  unfold lkI
  by_cases h1 : q < T
  · have hb := tc.2.2.2.2 q h1
    rw [if_pos h1]
    refine c_place1 (S := 10 + κ) (l := mK κ) k1 k2 ?_ k3 (by omega) (by omega) (fun j hj => ic _ j (by omega) (by omega)) hb ?_
    · rw [ic _ _ (by omega) (by omega)]
      have : κ = 0 ∨ κ = 1 ∨ κ = 2 := by omega
      rcases this with rfl | rfl | rfl <;> rfl
    · unfold sgB at hq
      rw [if_pos h1] at hq
      rw [fdK κ hκ _ hb]
      exact hq
  · rw [if_neg h1]
    unfold sgB at hq
    rw [if_neg h1] at hq
    have e0 : ltK κ 0 = none := by
      unfold ltK
      (repeat' split) <;> first | rfl | omega
    rw [e0] at hq
    rw [c_placeN]
    exact hq
theorem c_wrongN (ok : OK h) (hp : 1 ≤ p) (e2 : gi h 33 2 = nI p) (hq : ∀ h', Ag AtZ h h' → gi h' 33 3 = nI (p - 1) → Q (some (.int 0)) h') : AW d 81 0 [some (.ref 33)] [] h Q := by
  simp (disch := omega) only [s81_0, s81_1, s81_2, s81_5, s81_6, s81_7, s81_10, s81_11, true_or, or_true, or_false, false_or, or_self, Int32.reduceLT, Int32.reduceLE, Nat.add_zero, Nat.zero_add, Nat.not_lt_zero, not_false_eq_true, not_true_eq_false, and_assoc, kl_q, kl_i, kl_r, kl_n, kl_0, kl_l, cs_0, cs_i, cs_r, cs_n, cs_l, aRf_s, aRf_n, gi_wl, gi_wr, gl_wi, gl_wl, gl_wr, gr_wi, gr_wl, gr_wr, sh_wi, sh_wl, sh_wr, gl_cp, gr_cp, sh_cp, gl_rw, gr_rw, sh_rw, gi_rl, gr_rl, sh_rl, Option.toList_some, Option.toList_none, List.nil_append, List.cons_append, List.append_nil, Option.some.injEq, Prod.mk.injEq, and_true, true_and, and_self, if_true, if_false, reduceCtorEq, Nat.reduceLeDiff, Nat.reduceLT, Nat.reduceAdd, Nat.reduceEqDiff, false_and, and_false, exists_const, exists_eq_left, exists_eq_left', exists_and_left, and_assoc, nltL, nltR, nleL, nleR, neqL, neqR, naL, naR, nmL, nmR, nI_ltI, nI_leI, nI_eq, nI_add, nI_mul, nI_clamp, n0l, n0r, nm1, nm1', nm1l, nm1r, nm1g, nsL, nI_m1, Nat.add_sub_cancel, vpn, vpL, nclL, le32, leLL, leLN, leNL, leNN, inA, nb0, nb1, gi_wi_n, gi_wi_e, gi_rw_n, gi_rw_e, aWi_rw, ifl, ifl_, ifle, ifle_, ifq, ifq_, ifnq, ifnq_, ifnl, ifnl_, ifnle, ifnle_, z33 ok, e2]
  exact hq _ ((Ag.refl ok).wi ⟨rfl, Or.inr rfl⟩) gi_wi_e
end I5
