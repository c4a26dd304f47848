-- deps: 84.ty
/-! ===== laws as texts: clauses; how the class reads them ===== -/
abbrev ClR : Type := Nat ⊕ (Nat × List Tk × List Tk)
def bnc (x : Option PR) (f : Nat → List Tk → Option ClR) : Option ClR := match x with
  | none => none
  | some (.inl q) => some (.inl q)
  | some (.inr (p, t)) => f p t
theorem bnc_of {x : Option PR} {f : Nat → List Tk → Option ClR} {r : ClR} (h : bnc x f = some r) : (∃ q, x = some (.inl q) ∧ r = .inl q) ∨ ∃ p t, x = some (.inr (p, t)) ∧ f p t = some r := by
  unfold bnc at h
  split at h
  · cases h
  · next q =>
    cases h
    exact Or.inl ⟨q, rfl, rfl⟩
  · next p t => exact Or.inr ⟨p, t, rfl, h⟩
def bhG (B : Nat → Nat) (T n p : Nat) (t1 : List Tk) : Option ClR := if sgB B T (sk B T p) = 63 then bnc (pr B T n 0 0 (sk B T p + 1)) (fun p2 t2 => some (.inr (p2, t1, t2))) else some (.inl (sk B T p))
def mrG (B : Nat → Nat) (T n p : Nat) (t1 : List Tk) : Option ClR := match opC (sgB B T (sk B T p)) with
  | none => some (.inr (sk B T p, [], t1))
  | some _ => bnc (pr B T n 10 0 (sk B T p)) (fun p2 t2 => bnc (pr B T n 8 0 p2) (fun p3 t3 => bnc (pr B T n 6 0 p3) (fun p4 t4 => bhG B T n p4 (t1 ++ t2 ++ t3 ++ t4))))
def bdG (B : Nat → Nat) (T n p : Nat) : Option ClR := if sgB B T (sk B T p) = 33 ∨ sgB B T (sk B T p) = 40 then bnc (pr B T n 5 0 (sk B T p)) (fun p1 t1 => bhG B T n p1 t1) else bnc (pr B T n 0 0 (sk B T p)) (fun p1 t1 => mrG B T n p1 t1)
def clG (B : Nat → Nat) (T n p : Nat) : Option ClR := if sgB B T (sk B T p) = 121 then (if sgB B T (sk B T (sk B T p + 1)) = 58 then bdG B T n (sk B T (sk B T p + 1) + 1) else some (.inl (sk B T (sk B T p + 1)))) else some (.inl (sk B T p))
abbrev Cl : Type := Nat × Nat × Nat
def LY (a k : Nat) : Prop := LX a k ∨ (a = 52 ∧ k = 4) ∨ a = 54 ∨ a = 55
def ClC (h : aM) (cs : List Cl) : Prop := gi h 52 4 = nI cs.length ∧ ∀ i c, cs[i]? = some c → gi h 54 i = nI c.1 ∧ gi h 55 i = nI c.2.1
def PostK (B : Nat → Nat) (T : Nat) (ts : List Tk) (cs : List Cl) (Q : Option Value → aM → Prop) (r : ClR) (h : aM) : Prop := match r with
  | .inl q => gi h 33 3 = nI q → Q (some (.int 0)) h
  | .inr (p, t1, t2) => RdC h B T p (ts ++ (t1 ++ t2)) → ClC h (cs ++ [(ts.length, ts.length + t1.length, ts.length + t1.length + t2.length)]) → Q (some (.int 1)) h
theorem app_get {α : Type} {l : List α} {a u : α} {i : Nat} (h : (l ++ [a])[i]? = some u) : (i = l.length ∧ u = a) ∨ (i < l.length ∧ l[i]? = some u) := by
  rcases Nat.lt_trichotomy i l.length with q | q | q
  · rw [List.getElem?_append_left q] at h
    exact Or.inr ⟨q, h⟩
  · subst q
    rw [List.getElem?_append_right (Nat.le_refl _), Nat.sub_self] at h
    exact Or.inl ⟨rfl, by simpa using h.symm⟩
  · rw [List.getElem?_append_right (by omega), List.getElem?_eq_none (by rw [List.length_singleton]; omega)] at h
    cases h
section K1
variable {d : Nat} {h : aM} {Q : Option Value → aM → Prop} {B : Nat → Nat} {T p n : Nat} {ts t1 : List Tk} {cs : List Cl} {r : ClR}
theorem lx_ly {a k : Nat} (z : LX a k) : LY a k := Or.inl z
theorem at_ly {a k : Nat} (z : AtZ a k) : LY a k := Or.inl (at_lx z)
theorem ClC.ag {h' : aM} (c : ClC h cs) (a : Ag LX h h') : ClC h' cs := ⟨by rw [a.2 _ _ (by unfold LX; omega), c.1], fun i x hx => by
  rw [a.2 _ _ (by unfold LX; omega), a.2 _ _ (by unfold LX; omega)]
  exact c.2 i x hx⟩
theorem RdC.ly {h' : aM} (r : RdC h B T p ts) (a : Ag (fun a k => (a = 52 ∧ k = 4) ∨ a = 54 ∨ a = 55) h h') : RdC h' B T p ts := by
  obtain ⟨r1, r2, r3, r4, r5⟩ := r
  refine ⟨r1.ag a (by omega) (by omega), fun x j h1 h2 => ?_, by rw [a.2 _ _ (by omega), r3], by rw [a.2 _ _ (by omega), r4], fun i t ht => ?_⟩
  · rw [a.2 _ _ (by omega)]
    exact r2 x j h1 h2
  · rw [a.2 _ _ (by omega)]
    exact r5 i t ht
theorem c_addClause {e : Nat} (rc : RdC h B T p ts) (cc : ClC h cs) (hc : cs.length < 80) (hq : ∀ h', Ag LY h h' → RdC h' B T p ts → ClC h' (cs ++ [(ts.length, ts.length, e)]) → Q none h') : AW d 31 0 [some (.ref 52)] [] h Q := by
  have ok := rc.ok
  have r4 := rc.2.2.2.1
  have c1 := cc.1
  simp (disch := omega) only [s31_0, s31_1, s31_4, s31_6, s31_9, s31_10, s31_13, s31_14, s31_17, s31_18, s31_21, s31_22, s31_23, s31_26, s31_27, s31_30, s31_31, s31_34, s31_35, s31_36, s31_36i, s31_37, s31_40, s31_41, s31_42, s31_45, true_or, or_true, or_false, false_or, or_self, Int32.reduceLT, Int32.reduceLE, Nat.add_zero, Nat.zero_add, Nat.not_lt_zero, not_false_eq_true, not_true_eq_false, and_assoc, kl_q, kl_i, kl_r, kl_n, kl_0, kl_l, cs_0, cs_i, cs_r, cs_n, cs_l, aRf_s, aRf_n, gi_wl, gi_wr, gl_wi, gl_wl, gl_wr, gr_wi, gr_wl, gr_wr, sh_wi, sh_wl, sh_wr, gl_cp, gr_cp, sh_cp, gl_rw, gr_rw, sh_rw, gi_rl, gr_rl, sh_rl, Option.toList_some, Option.toList_none, List.nil_append, List.cons_append, List.append_nil, Option.some.injEq, Prod.mk.injEq, and_true, true_and, and_self, if_true, if_false, reduceCtorEq, Nat.reduceLeDiff, Nat.reduceLT, Nat.reduceAdd, Nat.reduceEqDiff, false_and, and_false, exists_const, exists_eq_left, exists_eq_left', exists_and_left, and_assoc, nltL, nltR, nleL, nleR, neqL, neqR, naL, naR, nmL, nmR, nI_ltI, nI_leI, nI_eq, nI_add, nI_mul, nI_clamp, n0l, n0r, nm1, nm1', nm1l, nm1r, nm1g, nsL, nI_m1, Nat.add_sub_cancel, vpn, vpL, nclL, le32, leLL, leLN, leNL, leNN, inA, nb0, nb1, gi_wi_n, gi_wi_e, gi_rw_n, gi_rw_e, aWi_rw, ifl, ifl_, ifle, ifle_, ifq, ifq_, ifnq, ifnq_, ifnl, ifnl_, ifnle, ifnle_, z52 ok, z54 ok, z55 ok, r52_1 ok, r52_2 ok, r4, c1, hc]
  have a1 : Ag (fun a k => (a = 52 ∧ k = 4) ∨ a = 54 ∨ a = 55) h (aWi (aWi (aWi h 54 cs.length (nI ts.length)) 55 cs.length (nI ts.length)) 52 4 (nI (cs.length + 1))) := (((Ag.refl ok).wi (by omega)).wi (by omega)).wi (by omega)
  refine hq _ (a1.mono (fun a k z => Or.inr z)) (rc.ly a1) ⟨?_, fun i c hi => ?_⟩
  · rw [gi_wi_e, List.length_append]
    rfl
  · rcases app_get hi with ⟨rfl, rfl⟩ | ⟨hl, hi⟩
    · rw [gi_wi_n (by omega), gi_wi_n (by omega), gi_wi_e, gi_wi_n (by omega), gi_wi_e]
      exact ⟨rfl, rfl⟩
    · rw [gi_wi_n (by omega), gi_wi_n (by omega), gi_wi_n (by omega), gi_wi_n (by omega), gi_wi_n (by omega), gi_wi_n (by omega)]
      exact cc.2 i c hi
theorem c_endCond {a b e e' : Nat} (rc : RdC h B T p ts) (cc : ClC h (cs ++ [(a, b, e)])) (hc : cs.length < 80) (hq : ∀ h', Ag LY h h' → RdC h' B T p ts → ClC h' (cs ++ [(a, ts.length, e')]) → Q none h') : AW d 32 0 [some (.ref 52)] [] h Q := by
  have ok := rc.ok
  have r4 := rc.2.2.2.1
  have c1 : gi h 52 4 = nI (cs.length + 1) := by
    rw [cc.1, List.length_append]
    rfl
  simp (disch := omega) only [s32_0, s32_1, s32_4, s32_7, s32_8, s32_11, s32_12, s32_15, s32_16, s32_17, s32_18, s32_21, s32_22, true_or, or_true, or_false, false_or, or_self, Int32.reduceLT, Int32.reduceLE, Nat.add_zero, Nat.zero_add, Nat.not_lt_zero, not_false_eq_true, not_true_eq_false, and_assoc, kl_q, kl_i, kl_r, kl_n, kl_0, kl_l, cs_0, cs_i, cs_r, cs_n, cs_l, aRf_s, aRf_n, gi_wl, gi_wr, gl_wi, gl_wl, gl_wr, gr_wi, gr_wl, gr_wr, sh_wi, sh_wl, sh_wr, gl_cp, gr_cp, sh_cp, gl_rw, gr_rw, sh_rw, gi_rl, gr_rl, sh_rl, Option.toList_some, Option.toList_none, List.nil_append, List.cons_append, List.append_nil, Option.some.injEq, Prod.mk.injEq, and_true, true_and, and_self, if_true, if_false, reduceCtorEq, Nat.reduceLeDiff, Nat.reduceLT, Nat.reduceAdd, Nat.reduceEqDiff, false_and, and_false, exists_const, exists_eq_left, exists_eq_left', exists_and_left, and_assoc, nltL, nltR, nleL, nleR, neqL, neqR, naL, naR, nmL, nmR, nI_ltI, nI_leI, nI_eq, nI_add, nI_mul, nI_clamp, n0l, n0r, nm1, nm1', nm1l, nm1r, nm1g, nsL, nI_m1, Nat.add_sub_cancel, vpn, vpL, nclL, le32, leLL, leLN, leNL, leNN, inA, nb0, nb1, gi_wi_n, gi_wi_e, gi_rw_n, gi_rw_e, aWi_rw, ifl, ifl_, ifle, ifle_, ifq, ifq_, ifnq, ifnq_, ifnl, ifnl_, ifnle, ifnle_, ifl, ifl_, ifle, ifle_, ifq, ifq_, ifnq, ifnq_, ifnl, ifnl_, ifnle, ifnle_, z52 ok, z55 ok, r52_2 ok, r4, c1, hc]
  have a1 : Ag (fun a k => (a = 52 ∧ k = 4) ∨ a = 54 ∨ a = 55) h (aWi h 55 cs.length (nI ts.length)) := (Ag.refl ok).wi (by omega)
  refine hq _ (a1.mono (fun a k z => Or.inr z)) (rc.ly a1) ⟨?_, fun i c hi => ?_⟩
  · rw [gi_wi_n (by omega), c1, List.length_append]
    rfl
  · rcases app_get hi with ⟨rfl, rfl⟩ | ⟨hl, hi⟩
    · rw [gi_wi_n (by omega), gi_wi_e]
      exact ⟨(cc.2 cs.length (a, b, e) (by rw [List.getElem?_append_right (Nat.le_refl _), Nat.sub_self]; rfl)).1, rfl⟩
    · rw [gi_wi_n (by omega), gi_wi_n (by omega)]
      exact cc.2 i c (by rw [List.getElem?_append_left hl]; exact hi)
theorem c_cmp {q : Nat} (hbb : ∀ i, i < T → B i < 256) (h0 : opC (sgB B T q) = none → Q (some (.int 0)) h) (h1 : ∀ o, opC (sgB B T q) = some o → ∀ x, ¬ x = 0 → Q (some (.int x)) h) : AW d 49 0 [some (.int (lkI B T q))] [] h Q := by
  have l61 := lk_sg (q := q) hbb (b := 61) (by omega) (by omega)
  have l60 := lk_sg (q := q) hbb (b := 60) (by omega) (by omega)
  have l62 := lk_sg (q := q) hbb (b := 62) (by omega) (by omega)
  cases ho : opC (sgB B T q) with
  | none =>
    have n61 : ¬ lkI B T q = 61 := fun q => by
      rw [l61.mp q] at ho
      cases ho
    have n60 : ¬ lkI B T q = 60 := fun q => by
      rw [l60.mp q] at ho
      cases ho
    have n62 : ¬ lkI B T q = 62 := fun q => by
      rw [l62.mp q] at ho
      cases ho
    have hdf : (lkI B T q).toInt < 60 ∨ 62 < (lkI B T q).toInt := by
      have e60 : (60 : Int32).toInt = 60 := rfl
      have e61 : (61 : Int32).toInt = 61 := rfl
      have e62 : (62 : Int32).toInt = 62 := rfl
      rw [eqi, e60] at n60
      rw [eqi, e61] at n61
      rw [eqi, e62] at n62
      omega
    simp (disch := omega) only [s49_0, s49_1_0, s49_1_1, s49_1_2, s49_28, s49_30, s49_31, s49_33, s49_34, s49_36, s49_37, s49_38, s49_1_d hdf, true_or, or_true, or_false, false_or, or_self, Int32.reduceLT, Int32.reduceLE, Nat.add_zero, Nat.zero_add, Nat.not_lt_zero, not_false_eq_true, not_true_eq_false, and_assoc, kl_q, kl_i, kl_r, kl_n, kl_0, kl_l, cs_0, cs_i, cs_r, cs_n, cs_l, aRf_s, aRf_n, gi_wl, gi_wr, gl_wi, gl_wl, gl_wr, gr_wi, gr_wl, gr_wr, sh_wi, sh_wl, sh_wr, gl_cp, gr_cp, sh_cp, gl_rw, gr_rw, sh_rw, gi_rl, gr_rl, sh_rl, Option.toList_some, Option.toList_none, List.nil_append, List.cons_append, List.append_nil, Option.some.injEq, Prod.mk.injEq, and_true, true_and, and_self, if_true, if_false, reduceCtorEq, Nat.reduceLeDiff, Nat.reduceLT, Nat.reduceAdd, Nat.reduceEqDiff, false_and, and_false, exists_const, exists_eq_left, exists_eq_left', exists_and_left, and_assoc, nltL, nltR, nleL, nleR, neqL, neqR, naL, naR, nmL, nmR, nI_ltI, nI_leI, nI_eq, nI_add, nI_mul, nI_clamp, n0l, n0r, nm1, nm1', nm1l, nm1r, nm1g, nsL, nI_m1, Nat.add_sub_cancel, vpn, vpL, nclL, le32, leLL, leLN, leNL, leNN, inA, nb0, nb1, gi_wi_n, gi_wi_e, gi_rw_n, gi_rw_e, aWi_rw, ifl, ifl_, ifle, ifle_, ifq, ifq_, ifnq, ifnq_, ifnl, ifnl_, ifnle, ifnle_]
    exact h0 ho
  | some o =>
    have h2 := h1 o ho
    have hc : sgB B T q = 61 ∨ sgB B T q = 60 ∨ sgB B T q = 62 := by
      unfold opC at ho
      repeat' split at ho
      · next z => exact Or.inl z
      · next z => exact Or.inr (Or.inl z)
      · next z => exact Or.inr (Or.inr z)
      · cases ho
    rcases hc with z | z | z
    · rw [l61.mpr z]
      simp (disch := omega) only [show nI 61 = 61 from rfl, s49_0, s49_1_0, s49_1_1, s49_1_2, s49_28, s49_30, s49_31, s49_33, s49_34, s49_36, s49_37, s49_38, true_or, or_true, or_false, false_or, or_self, Int32.reduceLT, Int32.reduceLE, Nat.add_zero, Nat.zero_add, Nat.not_lt_zero, not_false_eq_true, not_true_eq_false, and_assoc, kl_q, kl_i, kl_r, kl_n, kl_0, kl_l, cs_0, cs_i, cs_r, cs_n, cs_l, aRf_s, aRf_n, gi_wl, gi_wr, gl_wi, gl_wl, gl_wr, gr_wi, gr_wl, gr_wr, sh_wi, sh_wl, sh_wr, gl_cp, gr_cp, sh_cp, gl_rw, gr_rw, sh_rw, gi_rl, gr_rl, sh_rl, Option.toList_some, Option.toList_none, List.nil_append, List.cons_append, List.append_nil, Option.some.injEq, Prod.mk.injEq, and_true, true_and, and_self, if_true, if_false, reduceCtorEq, Nat.reduceLeDiff, Nat.reduceLT, Nat.reduceAdd, Nat.reduceEqDiff, false_and, and_false, exists_const, exists_eq_left, exists_eq_left', exists_and_left, and_assoc, nltL, nltR, nleL, nleR, neqL, neqR, naL, naR, nmL, nmR, nI_ltI, nI_leI, nI_eq, nI_add, nI_mul, nI_clamp, n0l, n0r, nm1, nm1', nm1l, nm1r, nm1g, nsL, nI_m1, Nat.add_sub_cancel, vpn, vpL, nclL, le32, leLL, leLN, leNL, leNN, inA, nb0, nb1, gi_wi_n, gi_wi_e, gi_rw_n, gi_rw_e, aWi_rw, ifl, ifl_, ifle, ifle_, ifq, ifq_, ifnq, ifnq_, ifnl, ifnl_, ifnle, ifnle_]
      exact h2 _ (by decide)
    · rw [l60.mpr z]
      simp (disch := omega) only [show nI 60 = 60 from rfl, s49_0, s49_1_0, s49_1_1, s49_1_2, s49_28, s49_30, s49_31, s49_33, s49_34, s49_36, s49_37, s49_38, true_or, or_true, or_false, false_or, or_self, Int32.reduceLT, Int32.reduceLE, Nat.add_zero, Nat.zero_add, Nat.not_lt_zero, not_false_eq_true, not_true_eq_false, and_assoc, kl_q, kl_i, kl_r, kl_n, kl_0, kl_l, cs_0, cs_i, cs_r, cs_n, cs_l, aRf_s, aRf_n, gi_wl, gi_wr, gl_wi, gl_wl, gl_wr, gr_wi, gr_wl, gr_wr, sh_wi, sh_wl, sh_wr, gl_cp, gr_cp, sh_cp, gl_rw, gr_rw, sh_rw, gi_rl, gr_rl, sh_rl, Option.toList_some, Option.toList_none, List.nil_append, List.cons_append, List.append_nil, Option.some.injEq, Prod.mk.injEq, and_true, true_and, and_self, if_true, if_false, reduceCtorEq, Nat.reduceLeDiff, Nat.reduceLT, Nat.reduceAdd, Nat.reduceEqDiff, false_and, and_false, exists_const, exists_eq_left, exists_eq_left', exists_and_left, and_assoc, nltL, nltR, nleL, nleR, neqL, neqR, naL, naR, nmL, nmR, nI_ltI, nI_leI, nI_eq, nI_add, nI_mul, nI_clamp, n0l, n0r, nm1, nm1', nm1l, nm1r, nm1g, nsL, nI_m1, Nat.add_sub_cancel, vpn, vpL, nclL, le32, leLL, leLN, leNL, leNN, inA, nb0, nb1, gi_wi_n, gi_wi_e, gi_rw_n, gi_rw_e, aWi_rw, ifl, ifl_, ifle, ifle_, ifq, ifq_, ifnq, ifnq_, ifnl, ifnl_, ifnle, ifnle_]
      exact h2 _ (by decide)
    · rw [l62.mpr z]
      simp (disch := omega) only [show nI 62 = 62 from rfl, s49_0, s49_1_0, s49_1_1, s49_1_2, s49_28, s49_30, s49_31, s49_33, s49_34, s49_36, s49_37, s49_38, true_or, or_true, or_false, false_or, or_self, Int32.reduceLT, Int32.reduceLE, Nat.add_zero, Nat.zero_add, Nat.not_lt_zero, not_false_eq_true, not_true_eq_false, and_assoc, kl_q, kl_i, kl_r, kl_n, kl_0, kl_l, cs_0, cs_i, cs_r, cs_n, cs_l, aRf_s, aRf_n, gi_wl, gi_wr, gl_wi, gl_wl, gl_wr, gr_wi, gr_wl, gr_wr, sh_wi, sh_wl, sh_wr, gl_cp, gr_cp, sh_cp, gl_rw, gr_rw, sh_rw, gi_rl, gr_rl, sh_rl, Option.toList_some, Option.toList_none, List.nil_append, List.cons_append, List.append_nil, Option.some.injEq, Prod.mk.injEq, and_true, true_and, and_self, if_true, if_false, reduceCtorEq, Nat.reduceLeDiff, Nat.reduceLT, Nat.reduceAdd, Nat.reduceEqDiff, false_and, and_false, exists_const, exists_eq_left, exists_eq_left', exists_and_left, and_assoc, nltL, nltR, nleL, nleR, neqL, neqR, naL, naR, nmL, nmR, nI_ltI, nI_leI, nI_eq, nI_add, nI_mul, nI_clamp, n0l, n0r, nm1, nm1', nm1l, nm1r, nm1g, nsL, nI_m1, Nat.add_sub_cancel, vpn, vpL, nclL, le32, leLL, leLN, leNL, leNN, inA, nb0, nb1, gi_wi_n, gi_wi_e, gi_rw_n, gi_rw_e, aWi_rw, ifl, ifl_, ifle, ifle_, ifq, ifq_, ifnq, ifnq_, ifnl, ifnl_, ifnle, ifnle_]
      exact h2 _ (by decide)
theorem c_behind {e : Nat} (hr : bhG B T n p t1 = some r) (hp : p ≤ T) (hl : (ts ++ t1).length ≤ p) (rc : RdC h B T p (ts ++ t1)) (cc : ClC h (cs ++ [(ts.length, ts.length, e)])) (hc : cs.length < 80) (hq : ∀ h', Ag LY h h' → PostK B T ts cs Q r h') : AW (d + 12 * (7 - 0) + 10) 42 0 [some (.ref 51)] [] h Q := by
  have ok := rc.ok
  have hbb := rc.1.2.2.2.2
  have hs := sk_le (B := B) hp
  unfold bhG at hr
  simp (disch := omega) only [s42_0, s42_1, s42_4, s42_6, s42_9, s42_12, s42_13, s42_14, s42_15, s42_18, s42_21, s42_22, s42_23, s42_26, true_or, or_true, or_false, false_or, or_self, Int32.reduceLT, Int32.reduceLE, Nat.add_zero, Nat.zero_add, Nat.not_lt_zero, not_false_eq_true, not_true_eq_false, and_assoc, kl_q, kl_i, kl_r, kl_n, kl_0, kl_l, cs_0, cs_i, cs_r, cs_n, cs_l, aRf_s, aRf_n, gi_wl, gi_wr, gl_wi, gl_wl, gl_wr, gr_wi, gr_wl, gr_wr, sh_wi, sh_wl, sh_wr, gl_cp, gr_cp, sh_cp, gl_rw, gr_rw, sh_rw, gi_rl, gr_rl, sh_rl, Option.toList_some, Option.toList_none, List.nil_append, List.cons_append, List.append_nil, Option.some.injEq, Prod.mk.injEq, and_true, true_and, and_self, if_true, if_false, reduceCtorEq, Nat.reduceLeDiff, Nat.reduceLT, Nat.reduceAdd, Nat.reduceEqDiff, false_and, and_false, exists_const, exists_eq_left, exists_eq_left', exists_and_left, and_assoc, nltL, nltR, nleL, nleR, neqL, neqR, naL, naR, nmL, nmR, nI_ltI, nI_leI, nI_eq, nI_add, nI_mul, nI_clamp, n0l, n0r, nm1, nm1', nm1l, nm1r, nm1g, nsL, nI_m1, Nat.add_sub_cancel, vpn, vpL, nclL, le32, leLL, leLN, leNL, leNN, inA, nb0, nb1, gi_wi_n, gi_wi_e, gi_rw_n, gi_rw_e, aWi_rw, ifl, ifl_, ifle, ifle_, ifq, ifq_, ifnq, ifnq_, ifnl, ifnl_, ifnle, ifnle_, z51 ok, z33 ok, r51_1 ok]
  refine c_take (b := 63) rc.1 hp rc.2.2.1 (by omega) (fun hb h1 a1 f1 f2 => ?_) (fun hb h1 a1 f1 => ?_)
  · rw [if_pos ((lk_sg hbb (by omega) (by omega)).mp hb)] at hr
    have rc1 := rc.at a1 f1
    have ok := rc1.ok
    simp (disch := omega) only [s42_0, s42_1, s42_4, s42_6, s42_9, s42_12, s42_13, s42_14, s42_15, s42_18, s42_21, s42_22, s42_23, s42_26, true_or, or_true, or_false, false_or, or_self, Int32.reduceLT, Int32.reduceLE, Nat.add_zero, Nat.zero_add, Nat.not_lt_zero, not_false_eq_true, not_true_eq_false, and_assoc, kl_q, kl_i, kl_r, kl_n, kl_0, kl_l, cs_0, cs_i, cs_r, cs_n, cs_l, aRf_s, aRf_n, gi_wl, gi_wr, gl_wi, gl_wl, gl_wr, gr_wi, gr_wl, gr_wr, sh_wi, sh_wl, sh_wr, gl_cp, gr_cp, sh_cp, gl_rw, gr_rw, sh_rw, gi_rl, gr_rl, sh_rl, Option.toList_some, Option.toList_none, List.nil_append, List.cons_append, List.append_nil, Option.some.injEq, Prod.mk.injEq, and_true, true_and, and_self, if_true, if_false, reduceCtorEq, Nat.reduceLeDiff, Nat.reduceLT, Nat.reduceAdd, Nat.reduceEqDiff, false_and, and_false, exists_const, exists_eq_left, exists_eq_left', exists_and_left, and_assoc, nltL, nltR, nleL, nleR, neqL, neqR, naL, naR, nmL, nmR, nI_ltI, nI_leI, nI_eq, nI_add, nI_mul, nI_clamp, n0l, n0r, nm1, nm1', nm1l, nm1r, nm1g, nsL, nI_m1, Nat.add_sub_cancel, vpn, vpL, nclL, le32, leLL, leLN, leNL, leNN, inA, nb0, nb1, gi_wi_n, gi_wi_e, gi_rw_n, gi_rw_e, aWi_rw, ifl, ifl_, ifle, ifle_, ifq, ifq_, ifnq, ifnq_, ifnl, ifnl_, ifnle, ifnle_, z51 ok, z52 ok, r51_0 ok]
    rcases bnc_of hr with ⟨q1, e1, rfl⟩ | ⟨p2, t2, e2, h5⟩
    · refine c_endCond (e' := 0) rc1 (cc.ag (a1.mono (fun a k z => at_lx z))) hc (fun h2 a2 rc2 cc2 => ?_)
      have ok := rc2.ok
      simp (disch := omega) only [s42_0, s42_1, s42_4, s42_6, s42_9, s42_12, s42_13, s42_14, s42_15, s42_18, s42_21, s42_22, s42_23, s42_26, true_or, or_true, or_false, false_or, or_self, Int32.reduceLT, Int32.reduceLE, Nat.add_zero, Nat.zero_add, Nat.not_lt_zero, not_false_eq_true, not_true_eq_false, and_assoc, kl_q, kl_i, kl_r, kl_n, kl_0, kl_l, cs_0, cs_i, cs_r, cs_n, cs_l, aRf_s, aRf_n, gi_wl, gi_wr, gl_wi, gl_wl, gl_wr, gr_wi, gr_wl, gr_wr, sh_wi, sh_wl, sh_wr, gl_cp, gr_cp, sh_cp, gl_rw, gr_rw, sh_rw, gi_rl, gr_rl, sh_rl, Option.toList_some, Option.toList_none, List.nil_append, List.cons_append, List.append_nil, Option.some.injEq, Prod.mk.injEq, and_true, true_and, and_self, if_true, if_false, reduceCtorEq, Nat.reduceLeDiff, Nat.reduceLT, Nat.reduceAdd, Nat.reduceEqDiff, false_and, and_false, exists_const, exists_eq_left, exists_eq_left', exists_and_left, and_assoc, nltL, nltR, nleL, nleR, neqL, neqR, naL, naR, nmL, nmR, nI_ltI, nI_leI, nI_eq, nI_add, nI_mul, nI_clamp, n0l, n0r, nm1, nm1', nm1l, nm1r, nm1g, nsL, nI_m1, Nat.add_sub_cancel, vpn, vpL, nclL, le32, leLL, leLN, leNL, leNN, inA, nb0, nb1, gi_wi_n, gi_wi_e, gi_rw_n, gi_rw_e, aWi_rw, ifl, ifl_, ifle, ifle_, ifq, ifq_, ifnq, ifnq_, ifnl, ifnl_, ifnle, ifnle_, z51 ok]
      refine simC B T n 0 0 _ _ (ts ++ t1) _ 0 none d _ e1 (by omega) (by omega) (by omega) (by omega) rc2 (fun h3 a3 f3 => ?_)
      simp (disch := omega) only [s42_0, s42_1, s42_4, s42_6, s42_9, s42_12, s42_13, s42_14, s42_15, s42_18, s42_21, s42_22, s42_23, s42_26, true_or, or_true, or_false, false_or, or_self, Int32.reduceLT, Int32.reduceLE, Nat.add_zero, Nat.zero_add, Nat.not_lt_zero, not_false_eq_true, not_true_eq_false, and_assoc, kl_q, kl_i, kl_r, kl_n, kl_0, kl_l, cs_0, cs_i, cs_r, cs_n, cs_l, aRf_s, aRf_n, gi_wl, gi_wr, gl_wi, gl_wl, gl_wr, gr_wi, gr_wl, gr_wr, sh_wi, sh_wl, sh_wr, gl_cp, gr_cp, sh_cp, gl_rw, gr_rw, sh_rw, gi_rl, gr_rl, sh_rl, Option.toList_some, Option.toList_none, List.nil_append, List.cons_append, List.append_nil, Option.some.injEq, Prod.mk.injEq, and_true, true_and, and_self, if_true, if_false, reduceCtorEq, Nat.reduceLeDiff, Nat.reduceLT, Nat.reduceAdd, Nat.reduceEqDiff, false_and, and_false, exists_const, exists_eq_left, exists_eq_left', exists_and_left, and_assoc, nb0, nb1]
      exact hq h3 (((a1.mono (fun a k z => at_ly z)).trans a2).trans (a3.mono (fun a k z => lx_ly z))) f3
    · cases h5
      refine c_endCond (e' := ts.length + t1.length + t2.length) rc1 (cc.ag (a1.mono (fun a k z => at_lx z))) hc (fun h2 a2 rc2 cc2 => ?_)
      have ok := rc2.ok
      simp (disch := omega) only [s42_0, s42_1, s42_4, s42_6, s42_9, s42_12, s42_13, s42_14, s42_15, s42_18, s42_21, s42_22, s42_23, s42_26, true_or, or_true, or_false, false_or, or_self, Int32.reduceLT, Int32.reduceLE, Nat.add_zero, Nat.zero_add, Nat.not_lt_zero, not_false_eq_true, not_true_eq_false, and_assoc, kl_q, kl_i, kl_r, kl_n, kl_0, kl_l, cs_0, cs_i, cs_r, cs_n, cs_l, aRf_s, aRf_n, gi_wl, gi_wr, gl_wi, gl_wl, gl_wr, gr_wi, gr_wl, gr_wr, sh_wi, sh_wl, sh_wr, gl_cp, gr_cp, sh_cp, gl_rw, gr_rw, sh_rw, gi_rl, gr_rl, sh_rl, Option.toList_some, Option.toList_none, List.nil_append, List.cons_append, List.append_nil, Option.some.injEq, Prod.mk.injEq, and_true, true_and, and_self, if_true, if_false, reduceCtorEq, Nat.reduceLeDiff, Nat.reduceLT, Nat.reduceAdd, Nat.reduceEqDiff, false_and, and_false, exists_const, exists_eq_left, exists_eq_left', exists_and_left, and_assoc, nltL, nltR, nleL, nleR, neqL, neqR, naL, naR, nmL, nmR, nI_ltI, nI_leI, nI_eq, nI_add, nI_mul, nI_clamp, n0l, n0r, nm1, nm1', nm1l, nm1r, nm1g, nsL, nI_m1, Nat.add_sub_cancel, vpn, vpL, nclL, le32, leLL, leLN, leNL, leNN, inA, nb0, nb1, gi_wi_n, gi_wi_e, gi_rw_n, gi_rw_e, aWi_rw, ifl, ifl_, ifle, ifle_, ifq, ifq_, ifnq, ifnq_, ifnl, ifnl_, ifnle, ifnle_, z51 ok]
      refine simC B T n 0 0 _ _ (ts ++ t1) _ 0 none d _ e2 (by omega) (by omega) (by omega) (by omega) rc2 (fun h3 a3 rc3 => ?_)
      simp (disch := omega) only [s42_0, s42_1, s42_4, s42_6, s42_9, s42_12, s42_13, s42_14, s42_15, s42_18, s42_21, s42_22, s42_23, s42_26, true_or, or_true, or_false, false_or, or_self, Int32.reduceLT, Int32.reduceLE, Nat.add_zero, Nat.zero_add, Nat.not_lt_zero, not_false_eq_true, not_true_eq_false, and_assoc, kl_q, kl_i, kl_r, kl_n, kl_0, kl_l, cs_0, cs_i, cs_r, cs_n, cs_l, aRf_s, aRf_n, gi_wl, gi_wr, gl_wi, gl_wl, gl_wr, gr_wi, gr_wl, gr_wr, sh_wi, sh_wl, sh_wr, gl_cp, gr_cp, sh_cp, gl_rw, gr_rw, sh_rw, gi_rl, gr_rl, sh_rl, Option.toList_some, Option.toList_none, List.nil_append, List.cons_append, List.append_nil, Option.some.injEq, Prod.mk.injEq, and_true, true_and, and_self, if_true, if_false, reduceCtorEq, Nat.reduceLeDiff, Nat.reduceLT, Nat.reduceAdd, Nat.reduceEqDiff, false_and, and_false, exists_const, exists_eq_left, exists_eq_left', exists_and_left, and_assoc, nb0, nb1]
      refine hq h3 (((a1.mono (fun a k z => at_ly z)).trans a2).trans (a3.mono (fun a k z => lx_ly z))) (by rw [List.append_assoc] at rc3; exact rc3) ?_
      rw [List.length_append] at cc2
      exact cc2.ag a3
  · rw [if_neg (fun q => hb ((lk_sg hbb (by omega) (by omega)).mpr q))] at hr
    cases hr
    simp (disch := omega) only [s42_0, s42_1, s42_4, s42_6, s42_9, s42_12, s42_13, s42_14, s42_15, s42_18, s42_21, s42_22, s42_23, s42_26, true_or, or_true, or_false, false_or, or_self, Int32.reduceLT, Int32.reduceLE, Nat.add_zero, Nat.zero_add, Nat.not_lt_zero, not_false_eq_true, not_true_eq_false, and_assoc, kl_q, kl_i, kl_r, kl_n, kl_0, kl_l, cs_0, cs_i, cs_r, cs_n, cs_l, aRf_s, aRf_n, gi_wl, gi_wr, gl_wi, gl_wl, gl_wr, gr_wi, gr_wl, gr_wr, sh_wi, sh_wl, sh_wr, gl_cp, gr_cp, sh_cp, gl_rw, gr_rw, sh_rw, gi_rl, gr_rl, sh_rl, Option.toList_some, Option.toList_none, List.nil_append, List.cons_append, List.append_nil, Option.some.injEq, Prod.mk.injEq, and_true, true_and, and_self, if_true, if_false, reduceCtorEq, Nat.reduceLeDiff, Nat.reduceLT, Nat.reduceAdd, Nat.reduceEqDiff, false_and, and_false, exists_const, exists_eq_left, exists_eq_left', exists_and_left, and_assoc, nltL, nltR, nleL, nleR, neqL, neqR, naL, naR, nmL, nmR, nI_ltI, nI_leI, nI_eq, nI_add, nI_mul, nI_clamp, n0l, n0r, nm1, nm1', nm1l, nm1r, nm1g, nsL, nI_m1, Nat.add_sub_cancel, vpn, vpL, nclL, le32, leLL, leLN, leNL, leNN, inA, nb0, nb1, gi_wi_n, gi_wi_e, gi_rw_n, gi_rw_e, aWi_rw, ifl, ifl_, ifle, ifle_, ifq, ifq_, ifnq, ifnq_, ifnl, ifnl_, ifnle, ifnle_]
    exact hq h1 (a1.mono (fun a k z => at_ly z)) f1
end K1
