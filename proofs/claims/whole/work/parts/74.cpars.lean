-- deps: 73.pars
/-! ===== the class reads laws ===== -/
def LX (a k : Nat) : Prop := (a = 33 ∧ (k = 2 ∨ k = 3)) ∨ (a = 52 ∧ k = 3) ∨ a = 53
def RdC (h : aM) (B : Nat → Nat) (T p : Nat) (ts : List Tk) : Prop := TpC h B T ∧ ICon h ∧ gi h 33 2 = nI p ∧ gi h 52 3 = nI ts.length ∧ ∀ i t, ts[i]? = some t → gi h 53 i = encC (nI t.1) (nI t.2)
def PostC (B : Nat → Nat) (T : Nat) (ts : List Tk) (Q : Option Value → aM → Prop) (r : PR) (h : aM) : Prop := match r with
  | .inl q => gi h 33 3 = nI q → Q (some (.int 0)) h
  | .inr (p, t) => RdC h B T p (ts ++ t) → Q (some (.int 1)) h
def mC : Nat → Nat
  | 0 => 50
  | 1 => 50
  | 2 => 51
  | 3 => 51
  | 4 => 52
  | 5 => 43
  | 6 => 44
  | 8 => 46
  | 9 => 47
  | _ => 48
def pC : Nat → Nat
  | 1 => 12
  | 3 => 12
  | 6 => 2
  | 8 => 2
  | _ => 0
def cC : Nat → Nat
  | 0 => 9
  | 1 => 9
  | 2 => 8
  | 3 => 8
  | 4 => 7
  | 5 => 15
  | 6 => 14
  | 8 => 12
  | 9 => 11
  | _ => 10
def lC (m e k : Nat) (z : Option Value) : aV := match m with
  | 0 => [some (.ref 51), some (.int (nI e)), none, none]
  | 1 => [some (.ref 51), some (.int (nI e)), some (.int (nI k)), z]
  | 2 => [some (.ref 51), some (.int (nI e)), none, none]
  | 3 => [some (.ref 51), some (.int (nI e)), some (.int (nI k)), z]
  | 4 => [some (.ref 51), some (.int (nI e)), none, none]
  | 5 => [some (.ref 51), some (.int (nI e))]
  | 6 => [some (.ref 51), some (.int (nI e)), some (.int (nI k))]
  | 8 => [some (.ref 51), some (.int (nI e)), some (.int (nI k))]
  | _ => [some (.ref 51), some (.int (nI e)), none]
def SimC (B : Nat → Nat) (T n m : Nat) : Prop := ∀ (e p : Nat) (r : PR) (ts : List Tk) (h : aM) (k : Nat) (z : Option Value) (d : Nat) (Q : Option Value → aM → Prop), pr B T n m e p = some r → p ≤ T → e ≤ 6 → 2 * k ≤ p → ts.length ≤ p → RdC h B T p ts → (∀ h', Ag LX h h' → PostC B T ts Q r h') → AW (d + 12 * (7 - e) + cC m) (mC m) (pC m) (lC m e k z) [] h Q
section C1
variable {d : Nat} {g h : aM} {Q : Option Value → aM → Prop} {B : Nat → Nat} {T p q n : Nat} {ts : List Tk}
theorem at_lx {a k : Nat} (h : AtZ a k) : LX a k := Or.inl h
theorem RdC.at {h' : aM} {p' : Nat} (r : RdC h B T p ts) (a : Ag AtZ h h') (e : gi h' 33 2 = nI p') : RdC h' B T p' ts := by
  obtain ⟨r1, r2, r3, r4, r5⟩ := r
  refine ⟨r1.ag a (by unfold AtZ; omega) (by unfold AtZ; omega), fun x j h1 h2 => ?_, e, ?_, fun i t ht => ?_⟩
  · rw [a.2 _ _ (by unfold AtZ; omega)]
    exact r2 x j h1 h2
  · rw [a.2 _ _ (by unfold AtZ; omega), r4]
  · rw [a.2 _ _ (by unfold AtZ; omega)]
    exact r5 i t ht
theorem c_addT {t : Tk} {x : Int32} (r : RdC h B T p ts) (hl : ts.length < 240) (hx : x = encC (nI t.1) (nI t.2)) (hq : ∀ h', Ag LX h h' → RdC h' B T p (ts ++ [t]) → Q none h') : AW d 33 0 [some (.ref 52), some (.int x)] [] h Q := by
  have ok := r.1.1
  obtain ⟨r1, r2, r3, r4, r5⟩ := r
  simp (disch := omega) only [s33_0, s33_1, s33_4, s33_5, s33_8, s33_9, s33_12, s33_13, s33_16, s33_17, s33_20, s33_21, s33_22, s33_23, s33_23i, s33_24, s33_27, s33_28, s33_29, s33_32, true_or, or_true, or_false, false_or, or_self, Int32.reduceLT, Int32.reduceLE, Nat.add_zero, Nat.zero_add, Nat.not_lt_zero, not_false_eq_true, not_true_eq_false, and_assoc, kl_q, kl_i, kl_r, kl_n, kl_0, kl_l, cs_0, cs_i, cs_r, cs_n, cs_l, aRf_s, aRf_n, gi_wl, gi_wr, gl_wi, gl_wl, gl_wr, gr_wi, gr_wl, gr_wr, sh_wi, sh_wl, sh_wr, gl_cp, gr_cp, sh_cp, gl_rw, gr_rw, sh_rw, gi_rl, gr_rl, sh_rl, Option.toList_some, Option.toList_none, List.nil_append, List.cons_append, List.append_nil, Option.some.injEq, Prod.mk.injEq, and_true, true_and, and_self, if_true, if_false, reduceCtorEq, Nat.reduceLeDiff, Nat.reduceLT, Nat.reduceAdd, Nat.reduceEqDiff, false_and, and_false, exists_const, exists_eq_left, exists_eq_left', exists_and_left, and_assoc, nltL, nltR, nleL, nleR, neqL, neqR, naL, naR, nmL, nmR, nI_ltI, nI_leI, nI_eq, nI_add, nI_mul, nI_clamp, n0l, n0r, nm1, nm1', nm1l, nm1r, nm1g, nsL, nI_m1, Nat.add_sub_cancel, vpn, vpL, nclL, le32, leLL, leLN, leNL, leNN, inA, nb0, nb1, gi_wi_n, gi_wi_e, gi_rw_n, gi_rw_e, aWi_rw, ifl, ifl_, ifle, ifle_, ifq, ifq_, ifnq, ifnq_, ifnl, ifnl_, ifnle, ifnle_, z52 ok, z53 ok, r52_0 ok, r4, hl]
  have a1 : Ag LX h (aWi (aWi h 53 ts.length x) 52 3 (nI (ts.length + 1))) := ((Ag.refl ok).wi (by unfold LX; omega)).wi (by unfold LX; omega)
  refine hq _ a1 ⟨r1.ag a1 (by unfold LX; omega) (by unfold LX; omega), fun y j h1 h2 => ?_, ?_, ?_, fun i u hu => ?_⟩
  · rw [gi_wi_n (by omega), gi_wi_n (by omega)]
    exact r2 y j h1 h2
  · rw [gi_wi_n (by omega), gi_wi_n (by omega), r3]
  · rw [gi_wi_e, List.length_append]
    rfl
  · rw [gi_wi_n (by omega)]
    by_cases hi : i = ts.length
    · subst hi
      rw [List.getElem?_append_right (Nat.le_refl _), Nat.sub_self] at hu
      have : t = u := by simpa using hu
      subst this
      rw [gi_wi_e, hx]
    · have hi2 : i < ts.length := by
        rcases Nat.lt_or_ge i ts.length with q | q
        · exact q
        · rw [List.getElem?_append_right q, List.getElem?_eq_none (by rw [List.length_singleton]; omega)] at hu
          cases hu
      rw [List.getElem?_append_left hi2] at hu
      rw [gi_wi_n (by omega)]
      exact r5 i u hu
theorem lk_sg {b : Nat} (hb : ∀ i, i < T → B i < 256) (h0 : 0 < b) (h1 : b < 2 ^ 31) : lkI B T q = nI b ↔ sgB B T q = b := by
  unfold lkI sgB
  by_cases h : q < T
  · have := hb q h
    rw [if_pos h, if_pos h, nI_eq (by omega) h1]
  · rw [if_neg h, if_neg h]
    constructor
    · intro e
      exact absurd e.symm (fun z => (nm1 h1).mp z)
    · intro e
      omega
theorem fdL : ∀ b, b < 256 → fdI 17 (bB b) 0 6 = (match ltO b with
  | some l => nI l
  | none => -1) := by decide +kernel
theorem c_letter (r : RdC h B T p ts) (hq : Q (some (.int (match ltO (sgB B T q) with
    | some l => nI l
    | none => -1))) h) : AW (d + 5) 160 0 [some (.int (lkI B T q)), some (.ref 13)] [] h Q := by
  have ok := r.1.1
  unfold lkI
  by_cases h1 : q < T
  · have hb := r.1.2.2.2.2 q h1
    rw [if_pos h1]
    refine c_place1 (S := 13) (l := 6) (z13 ok) (r13_0 ok) (by rw [r.2.1 13 1 (by omega) (by omega)]; rfl) (z17 ok) (by omega) (by omega) (fun j hj => r.2.1 17 j (by omega) (by omega)) hb ?_
    unfold sgB at hq
    rw [if_pos h1] at hq
    rw [show 13 + 4 = 17 from rfl, fdL _ hb]
    exact hq
  · rw [if_neg h1]
    unfold sgB at hq
    rw [if_neg h1] at hq
    rw [c_placeN]
    exact hq
end C1
