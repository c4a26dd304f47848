-- deps: 9d.fault
/-! ===== a law is kept ===== -/
def WfC (ts : List Tk) (c : Cl) : Prop := ∃ tc tu : List Tk, c.2.1 = c.1 + tc.length ∧ c.2.2 = c.2.1 + tu.length ∧ c.2.2 ≤ ts.length ∧ (∀ k u, tc[k]? = some u → ts[c.1 + k]? = some u) ∧ (∀ k u, tu[k]? = some u → ts[c.2.1 + k]? = some u) ∧ (tc = [] ∨ tyL tc [] = some [true]) ∧ tyL tu [] = some [false]
def WfL (ts : List Tk) (cs : List Cl) : Prop := (∀ u ∈ ts, tkG u) ∧ ∀ i c, cs[i]? = some c → WfC ts c ∧ (∀ c', cs[i + 1]? = some c' → c'.1 = c.2.2) ∧ (i + 1 = cs.length → c.2.2 = ts.length)
section Q1
variable {h : aM} {B : Nat → Nat} {T n : Nat} {ts t1 t2 : List Tk} {cs : List Cl}
theorem WfL.nil : WfL [] [] := ⟨fun u hu => (by cases hu), fun i c hc => by simp at hc⟩
theorem get_app {α : Type} {a b : List α} {k : Nat} {u : α} (h : b[k]? = some u) : (a ++ b)[a.length + k]? = some u := by
  rw [List.getElem?_append_right (by omega), Nat.add_sub_cancel_left]
  exact h
theorem get_l {α : Type} {a b : List α} {k : Nat} {u : α} (h : a[k]? = some u) : (a ++ b)[k]? = some u := by
  rw [List.getElem?_append_left (List.getElem?_eq_some_iff.mp h).1]
  exact h
theorem WfL.app (w : WfL ts cs) (ct : (∀ u ∈ t1 ++ t2, tkG u) ∧ (t1 = [] ∨ tyL t1 [] = some [true]) ∧ tyL t2 [] = some [false]) : WfL (ts ++ (t1 ++ t2)) (nwC ts t1 t2 cs) := by
  obtain ⟨w1, w2⟩ := w
  obtain ⟨c1, c2, c3⟩ := ct
  refine ⟨fun u hu => mem2 hu w1 c1, fun i c hi => ?_⟩
  unfold nwC at hi ⊢
  rcases app_get hi with ⟨rfl, rfl⟩ | ⟨hl, hi⟩
  · refine ⟨⟨t1, t2, rfl, rfl, ?_, fun k u hu => get_app (get_l hu), fun k u hu => ?_, c2, c3⟩, fun c' hc' => ?_, fun _ => ?_⟩
    · simp only [List.length_append]
      omega
    · have := get_app (a := ts) (get_app (a := t1) hu)
      rw [show ts.length + (t1.length + k) = ts.length + t1.length + k by omega] at this
      exact this
    · rw [List.getElem?_eq_none (by simp)] at hc'
      cases hc'
    · simp only [List.length_append]
      omega
  · obtain ⟨⟨tc, tu, a1, a2, a3, a4, a5, a6, a7⟩, b1, b2⟩ := w2 i c hi
    refine ⟨⟨tc, tu, a1, a2, by simp only [List.length_append]; omega, fun k u hu => get_l (a4 k u hu), fun k u hu => get_l (a5 k u hu), a6, a7⟩, fun c' hc' => ?_, fun e => ?_⟩
    · rcases app_get hc' with ⟨e, rfl⟩ | ⟨-, hc'⟩
      · exact (b2 e).symm
      · exact b1 c' hc'
    · simp only [List.length_append, List.length_singleton] at e
      omega
theorem lwG_wf {ts' : List Tk} {cs' : List Cl} : ∀ (f p : Nat) (ts : List Tk) (cs : List Cl), lwG B T n f p ts cs = some (.inr (ts', cs')) → p ≤ T → ts.length ≤ p → 4 * cs.length ≤ p → WfL ts cs → WfL ts' cs' ∧ ts'.length ≤ T ∧ 4 * cs'.length ≤ T + 1
  | 0, p, ts, cs, h, _, _, _, _ => by
    unfold lwG at h
    cases h
  | f + 1, p, ts, cs, h, hp, hl, hc, w => by
    unfold lwG at h
    cases e : clG B T n p with
    | none =>
      rw [e] at h
      cases h
    | some r0 =>
      rw [e] at h
      cases r0 with
      | inl q => cases h
      | inr x =>
        obtain ⟨p1, t1, t2⟩ := x
        simp only at h
        obtain ⟨c1, c2, c3⟩ : CpR T p (.inr (p1, t1, t2)) := clG_pos e hp
        have ct : CtR (.inr (p1, t1, t2)) := clG_ty e
        have hs := sk_le (B := B) c2
        have w' := w.app ct
        split at h
        · cases h
          refine ⟨w', ?_, ?_⟩
          · rw [List.length_append]
            omega
          · rw [nwC_len]
            omega
        · split at h
          · exact lwG_wf f _ _ _ h (by omega) (by rw [List.length_append]; omega) (by rw [nwC_len]; omega) w'
          · cases h
theorem tyS_L {tl : List Tk} {c : Nat → Int32} {s0 : List Bool} (hc : ∀ k u, tl[k]? = some u → c k = nI u.1) : ∀ n, n ≤ tl.length → tyS c s0 n = tyL (tl.take n) s0
  | 0, _ => rfl
  | n + 1, hn => by
    have e : tl[n]? = some tl[n] := List.getElem?_eq_getElem (by omega)
    rw [tyS, tyS_L hc n (by omega), List.take_succ, tyL_app, e, hc n _ e]
    cases tyL (tl.take n) s0 with
    | none => rfl
    | some s' =>
      show tstep _ s' = (tstep _ s').bind some
      cases tstep (nI tl[n].1) s' <;> rfl
theorem tk_ok {t : Tk} (h : tkG t) : tkOK (nI t.1) (nI t.2) := by
  unfold tkOK
  rcases h with ⟨h1, h2⟩ | ⟨h1, h2⟩ | ⟨h1, h2⟩
  · rw [h1]
    exact Or.inl ⟨rfl, t.2, h2, rfl⟩
  · rw [h1]
    exact Or.inr (Or.inl ⟨rfl, t.2, h2, rfl⟩)
  · have : t.1 = 2 ∨ t.1 = 3 ∨ t.1 = 4 ∨ t.1 = 5 ∨ t.1 = 6 ∨ t.1 = 7 ∨ t.1 = 8 ∨ t.1 = 9 ∨ t.1 = 10 ∨ t.1 = 11 := by omega
    rcases this with e | e | e | e | e | e | e | e | e | e <;> rw [e] <;> simp [nI]
/-- a law as it lies in the class and in the reference -/
def LwX (h : aM) (i : Nat) (ts : List Tk) (cs : List Cl) : Prop := gi h (375 + 6 * i) 3 = nI ts.length ∧ gi h (375 + 6 * i) 4 = nI cs.length ∧ (∀ p t, ts[p]? = some t → gi h (376 + 6 * i) p = encC (nI t.1) (nI t.2)) ∧ ∀ q c, cs[q]? = some c → gi h (377 + 6 * i) q = nI c.1 ∧ gi h (378 + 6 * i) q = nI c.2.1
theorem LwR.mk {i : Nat} (wf : WfL ts cs) (ht : ts.length ≤ 240) (hc : cs.length ≤ 80) (lx : LwX h i ts cs) (cm : ClM h i cs) (rm : ∀ p t, ts[p]? = some t → gi h 401 (520 * i + p) = nI t.1 ∧ gi h 402 (520 * i + p) = nI t.2) : LwR h i := by
  obtain ⟨x1, x2, x3, x4⟩ := lx
  obtain ⟨w1, w2⟩ := wf
  refine ⟨ts.length, cs.length, ht, hc, x1, x2, cm.1, fun p hp => ?_, fun q hq => ?_⟩
  · have e : ts[p]? = some ts[p] := List.getElem?_eq_getElem hp
    rw [x3 p _ e, (rm p _ e).1, (rm p _ e).2]
    exact ⟨rfl, tk_ok (w1 _ (List.mem_of_getElem? e))⟩
  · have e : cs[q]? = some cs[q] := List.getElem?_eq_getElem hq
    generalize cs[q] = c at e
    obtain ⟨⟨tc, tu, a1, a2, a3, a4, a5, a6, a7⟩, b1, b2⟩ := w2 q c e
    obtain ⟨m1, m2, m3⟩ := cm.2 q c e
    refine ⟨c.1, c.2.1, c.2.2, by omega, by omega, a3, (x4 q c e).1, m1, (x4 q c e).2, m2, m3, ?_, ?_, ?_⟩
    · by_cases hl : q + 1 < cs.length
      · have e' : cs[q + 1]? = some cs[q + 1] := List.getElem?_eq_getElem hl
        rw [if_pos hl, (x4 _ _ e').1, b1 _ e']
      · rw [if_neg hl, b2 (by omega)]
    · rcases a6 with rfl | a6
      · exact Or.inl (by rw [a1]; rfl)
      · refine Or.inr ?_
        have t := tyS_L (tl := tc) (c := segC h i c.1) (s0 := []) (fun k u hu => by
          show gi h 401 (520 * i + c.1 + k) = _
          rw [Nat.add_assoc]
          exact (rm _ _ (a4 k u hu)).1) tc.length (Nat.le_refl _)
        rw [show c.2.1 - c.1 = tc.length by omega, t, List.take_length]
        exact a6
    · have t := tyS_L (tl := tu) (c := segC h i c.2.1) (s0 := []) (fun k u hu => by
        show gi h 401 (520 * i + c.2.1 + k) = _
        rw [Nat.add_assoc]
        exact (rm _ _ (a5 k u hu)).1) tu.length (Nat.le_refl _)
      rw [show c.2.2 - c.2.1 = tu.length by omega, t, List.take_length]
      exact a7
theorem rLaw {i : Nat} (ok : OK h) (hi : i < 4) : gr h 341 i = some (375 + 6 * i) ∧ sh h (375 + 6 * i) = some (3, 7) ∧ gr h (375 + 6 * i) 0 = some (376 + 6 * i) ∧ gr h (375 + 6 * i) 1 = some (377 + 6 * i) ∧ gr h (375 + 6 * i) 2 = some (378 + 6 * i) ∧ sh h (376 + 6 * i) = some (100, 240) ∧ sh h (377 + 6 * i) = some (100, 80) ∧ sh h (378 + 6 * i) = some (100, 80) := by
  have : i = 0 ∨ i = 1 ∨ i = 2 ∨ i = 3 := by omega
  rcases this with rfl | rfl | rfl | rfl
  · exact ⟨r341_0 ok, z375 ok, r375_0 ok, r375_1 ok, r375_2 ok, z376 ok, z377 ok, z378 ok⟩
  · exact ⟨r341_1 ok, z381 ok, r381_0 ok, r381_1 ok, r381_2 ok, z382 ok, z383 ok, z384 ok⟩
  · exact ⟨r341_2 ok, z387 ok, r387_0 ok, r387_1 ok, r387_2 ok, z388 ok, z389 ok, z390 ok⟩
  · exact ⟨r341_3 ok, z393 ok, r393_0 ok, r393_1 ok, r393_2 ok, z394 ok, z395 ok, z396 ok⟩
variable {d : Nat} {Q : Option Value → aM → Prop} {p N : Nat}
theorem c_cut0 (ok : OK h) (hT : T ≤ 240) (e : gi h 33 1 = nI T) (hq : ∀ h', Ag (fun a k => a = 33 ∧ k = 1) h h' → gi h' 33 1 = nI 0 → Q none h') : AW d 74 0 [some (.ref 33), some (.int 0)] [] h Q := by
  by_cases h0 : T = 0
  · subst h0
    have e' : gi h 33 1 = 0 := e
    simp (disch := omega) only [s74_0, s74_1, s74_4, s74_5, s74_6, s74_9, s74_12, s74_13, s74_14, s74_17, true_or, or_true, or_false, false_or, or_self, Int32.reduceLT, Int32.reduceLE, Nat.add_zero, Nat.zero_add, Nat.not_lt_zero, not_false_eq_true, not_true_eq_false, and_assoc, kl_q, kl_i, kl_r, kl_n, kl_0, kl_l, cs_0, cs_i, cs_r, cs_n, cs_l, aRf_s, aRf_n, gi_wl, gi_wr, gl_wi, gl_wl, gl_wr, gr_wi, gr_wl, gr_wr, sh_wi, sh_wl, sh_wr, gl_cp, gr_cp, sh_cp, gl_rw, gr_rw, sh_rw, gi_rl, gr_rl, sh_rl, Option.toList_some, Option.toList_none, List.nil_append, List.cons_append, List.append_nil, Option.some.injEq, Prod.mk.injEq, and_true, true_and, and_self, if_true, if_false, reduceCtorEq, Nat.reduceLeDiff, Nat.reduceLT, Nat.reduceAdd, Nat.reduceEqDiff, false_and, and_false, exists_const, exists_eq_left, exists_eq_left', exists_and_left, and_assoc, nltL, nltR, nleL, nleR, neqL, neqR, naL, naR, nmL, nmR, nI_ltI, nI_leI, nI_eq, nI_add, nI_mul, nI_clamp, n0l, n0r, nm1, nm1', nm1l, nm1r, nm1g, nsL, nI_m1, Nat.add_sub_cancel, vpn, vpL, nclL, le32, leLL, leLN, leNL, leNN, inA, nb0, nb1, gi_wi_n, gi_wi_e, gi_rw_n, gi_rw_e, aWi_rw, ifl, ifl_, ifle, ifle_, ifq, ifq_, ifnq, ifnq_, ifnl, ifnl_, ifnle, ifnle_, z33 ok, e', Int32.le_refl]
    exact hq h (Ag.refl ok) e
  · have n1 : ¬ T ≤ 0 := by omega
    simp (disch := omega) only [s74_0, s74_1, s74_4, s74_5, s74_6, s74_9, s74_12, s74_13, s74_14, s74_17, true_or, or_true, or_false, false_or, or_self, Int32.reduceLT, Int32.reduceLE, Nat.add_zero, Nat.zero_add, Nat.not_lt_zero, not_false_eq_true, not_true_eq_false, and_assoc, kl_q, kl_i, kl_r, kl_n, kl_0, kl_l, cs_0, cs_i, cs_r, cs_n, cs_l, aRf_s, aRf_n, gi_wl, gi_wr, gl_wi, gl_wl, gl_wr, gr_wi, gr_wl, gr_wr, sh_wi, sh_wl, sh_wr, gl_cp, gr_cp, sh_cp, gl_rw, gr_rw, sh_rw, gi_rl, gr_rl, sh_rl, Option.toList_some, Option.toList_none, List.nil_append, List.cons_append, List.append_nil, Option.some.injEq, Prod.mk.injEq, and_true, true_and, and_self, if_true, if_false, reduceCtorEq, Nat.reduceLeDiff, Nat.reduceLT, Nat.reduceAdd, Nat.reduceEqDiff, false_and, and_false, exists_const, exists_eq_left, exists_eq_left', exists_and_left, and_assoc, nltL, nltR, nleL, nleR, neqL, neqR, naL, naR, nmL, nmR, nI_ltI, nI_leI, nI_eq, nI_add, nI_mul, nI_clamp, n0l, n0r, nm1, nm1', nm1l, nm1r, nm1g, nsL, nI_m1, Nat.add_sub_cancel, vpn, vpL, nclL, le32, leLL, leLN, leNL, leNN, inA, nb0, nb1, gi_wi_n, gi_wi_e, gi_rw_n, gi_rw_e, aWi_rw, ifl, ifl_, ifle, ifle_, ifq, ifq_, ifnq, ifnq_, ifnl, ifnl_, ifnle, ifnle_, z33 ok, e, n1]
    exact hq _ ((Ag.refl ok).wi ⟨rfl, rfl⟩) gi_wi_e
def KX (N a k : Nat) : Prop := (a = 33 ∧ k = 1) ∨ (375 + 6 * N ≤ a ∧ a ≤ 378 + 6 * N) ∨ (a = 32 ∧ k = 16)
theorem c_lawCopy (ok : OK h) (hN : N < 4) (r4 : gi h 52 3 = nI ts.length) (r5 : ∀ i t, ts[i]? = some t → gi h 53 i = encC (nI t.1) (nI t.2)) (cc : ClC h cs) (ht : ts.length ≤ 240) (hc : cs.length ≤ 80) (hq : ∀ h', Ag (fun a _ => 375 + 6 * N ≤ a ∧ a ≤ 378 + 6 * N) h h' → LwX h' N ts cs → Q none h') : AW (d + 2) 30 0 [some (.ref (375 + 6 * N)), some (.ref 52)] [] h Q := by
  obtain ⟨k1, k2, k3, k4, k5, k6, k7, k8⟩ := rLaw ok hN
  simp (disch := omega) only [s30_0, s30_0n, s30_0q, s30_1, s30_4, s30_4n, s30_4q, s30_5, s30_8, s30_11, s30_11n, s30_11q, s30_12, s30_15, s30_15n, s30_15q, s30_16, s30_19, s30_22, s30_22n, s30_22q, s30_23, s30_26, s30_26n, s30_26q, s30_27, s30_30, s30_33, s30_33n, s30_33q, s30_34, s30_34n, s30_34q, s30_35, s30_38, s30_41, s30_41n, s30_41q, s30_42, s30_42n, s30_42q, s30_43, s30_46, s30_49, true_or, or_true, or_false, false_or, or_self, Int32.reduceLT, Int32.reduceLE, Nat.add_zero, Nat.zero_add, Nat.not_lt_zero, not_false_eq_true, not_true_eq_false, and_assoc, kl_q, kl_i, kl_r, kl_n, kl_0, kl_l, cs_0, cs_i, cs_r, cs_n, cs_l, aRf_s, aRf_n, gi_wl, gi_wr, gl_wi, gl_wl, gl_wr, gr_wi, gr_wl, gr_wr, sh_wi, sh_wl, sh_wr, gl_cp, gr_cp, sh_cp, gl_rw, gr_rw, sh_rw, gi_rl, gr_rl, sh_rl, Option.toList_some, Option.toList_none, List.nil_append, List.cons_append, List.append_nil, Option.some.injEq, Prod.mk.injEq, and_true, true_and, and_self, if_true, if_false, reduceCtorEq, Nat.reduceLeDiff, Nat.reduceLT, Nat.reduceAdd, Nat.reduceEqDiff, false_and, and_false, exists_const, exists_eq_left, exists_eq_left', exists_and_left, and_assoc, nltL, nltR, nleL, nleR, neqL, neqR, naL, naR, nmL, nmR, nI_ltI, nI_leI, nI_eq, nI_add, nI_mul, nI_clamp, n0l, n0r, nm1, nm1', nm1l, nm1r, nm1g, nsL, nI_m1, Nat.add_sub_cancel, vpn, vpL, nclL, le32, leLL, leLN, leNL, leNN, inA, nb0, nb1, gi_wi_n, gi_wi_e, gi_rw_n, gi_rw_e, aWi_rw, ifl, ifl_, ifle, ifle_, ifq, ifq_, ifnq, ifnq_, ifnl, ifnl_, ifnle, ifnle_, z52 ok, r52_0 ok, k2, k3]
  rw [sp_row (n := 240) (z53 ok) k6 (by omega) (by decide), aCp_rw]
  simp (disch := omega) only [s30_0, s30_0n, s30_0q, s30_1, s30_4, s30_4n, s30_4q, s30_5, s30_8, s30_11, s30_11n, s30_11q, s30_12, s30_15, s30_15n, s30_15q, s30_16, s30_19, s30_22, s30_22n, s30_22q, s30_23, s30_26, s30_26n, s30_26q, s30_27, s30_30, s30_33, s30_33n, s30_33q, s30_34, s30_34n, s30_34q, s30_35, s30_38, s30_41, s30_41n, s30_41q, s30_42, s30_42n, s30_42q, s30_43, s30_46, s30_49, true_or, or_true, or_false, false_or, or_self, Int32.reduceLT, Int32.reduceLE, Nat.add_zero, Nat.zero_add, Nat.not_lt_zero, not_false_eq_true, not_true_eq_false, and_assoc, kl_q, kl_i, kl_r, kl_n, kl_0, kl_l, cs_0, cs_i, cs_r, cs_n, cs_l, aRf_s, aRf_n, gi_wl, gi_wr, gl_wi, gl_wl, gl_wr, gr_wi, gr_wl, gr_wr, sh_wi, sh_wl, sh_wr, gl_cp, gr_cp, sh_cp, gl_rw, gr_rw, sh_rw, gi_rl, gr_rl, sh_rl, Option.toList_some, Option.toList_none, List.nil_append, List.cons_append, List.append_nil, Option.some.injEq, Prod.mk.injEq, and_true, true_and, and_self, if_true, if_false, reduceCtorEq, Nat.reduceLeDiff, Nat.reduceLT, Nat.reduceAdd, Nat.reduceEqDiff, false_and, and_false, exists_const, exists_eq_left, exists_eq_left', exists_and_left, and_assoc, nltL, nltR, nleL, nleR, neqL, neqR, naL, naR, nmL, nmR, nI_ltI, nI_leI, nI_eq, nI_add, nI_mul, nI_clamp, n0l, n0r, nm1, nm1', nm1l, nm1r, nm1g, nsL, nI_m1, Nat.add_sub_cancel, vpn, vpL, nclL, le32, leLL, leLN, leNL, leNN, inA, nb0, nb1, gi_wi_n, gi_wi_e, gi_rw_n, gi_rw_e, aWi_rw, ifl, ifl_, ifle, ifle_, ifq, ifq_, ifnq, ifnq_, ifnl, ifnl_, ifnle, ifnle_, z52 ok, r52_1 ok, k2, k4]
  rw [sp_row (n := 80) (by simp only [true_or, or_true, or_false, false_or, or_self, Int32.reduceLT, Int32.reduceLE, Nat.add_zero, Nat.zero_add, Nat.not_lt_zero, not_false_eq_true, not_true_eq_false, and_assoc, kl_q, kl_i, kl_r, kl_n, kl_0, kl_l, cs_0, cs_i, cs_r, cs_n, cs_l, aRf_s, aRf_n, gi_wl, gi_wr, gl_wi, gl_wl, gl_wr, gr_wi, gr_wl, gr_wr, sh_wi, sh_wl, sh_wr, gl_cp, gr_cp, sh_cp, gl_rw, gr_rw, sh_rw, gi_rl, gr_rl, sh_rl, Option.toList_some, Option.toList_none, List.nil_append, List.cons_append, List.append_nil, Option.some.injEq, Prod.mk.injEq, and_true, true_and, and_self, if_true, if_false, reduceCtorEq, Nat.reduceLeDiff, Nat.reduceLT, Nat.reduceAdd, Nat.reduceEqDiff, false_and, and_false, exists_const, exists_eq_left, exists_eq_left', exists_and_left, and_assoc]; exact z54 ok) (by simp only [true_or, or_true, or_false, false_or, or_self, Int32.reduceLT, Int32.reduceLE, Nat.add_zero, Nat.zero_add, Nat.not_lt_zero, not_false_eq_true, not_true_eq_false, and_assoc, kl_q, kl_i, kl_r, kl_n, kl_0, kl_l, cs_0, cs_i, cs_r, cs_n, cs_l, aRf_s, aRf_n, gi_wl, gi_wr, gl_wi, gl_wl, gl_wr, gr_wi, gr_wl, gr_wr, sh_wi, sh_wl, sh_wr, gl_cp, gr_cp, sh_cp, gl_rw, gr_rw, sh_rw, gi_rl, gr_rl, sh_rl, Option.toList_some, Option.toList_none, List.nil_append, List.cons_append, List.append_nil, Option.some.injEq, Prod.mk.injEq, and_true, true_and, and_self, if_true, if_false, reduceCtorEq, Nat.reduceLeDiff, Nat.reduceLT, Nat.reduceAdd, Nat.reduceEqDiff, false_and, and_false, exists_const, exists_eq_left, exists_eq_left', exists_and_left, and_assoc]; exact k7) (by omega) (by decide), aCp_rw]
  simp (disch := omega) only [s30_0, s30_0n, s30_0q, s30_1, s30_4, s30_4n, s30_4q, s30_5, s30_8, s30_11, s30_11n, s30_11q, s30_12, s30_15, s30_15n, s30_15q, s30_16, s30_19, s30_22, s30_22n, s30_22q, s30_23, s30_26, s30_26n, s30_26q, s30_27, s30_30, s30_33, s30_33n, s30_33q, s30_34, s30_34n, s30_34q, s30_35, s30_38, s30_41, s30_41n, s30_41q, s30_42, s30_42n, s30_42q, s30_43, s30_46, s30_49, true_or, or_true, or_false, false_or, or_self, Int32.reduceLT, Int32.reduceLE, Nat.add_zero, Nat.zero_add, Nat.not_lt_zero, not_false_eq_true, not_true_eq_false, and_assoc, kl_q, kl_i, kl_r, kl_n, kl_0, kl_l, cs_0, cs_i, cs_r, cs_n, cs_l, aRf_s, aRf_n, gi_wl, gi_wr, gl_wi, gl_wl, gl_wr, gr_wi, gr_wl, gr_wr, sh_wi, sh_wl, sh_wr, gl_cp, gr_cp, sh_cp, gl_rw, gr_rw, sh_rw, gi_rl, gr_rl, sh_rl, Option.toList_some, Option.toList_none, List.nil_append, List.cons_append, List.append_nil, Option.some.injEq, Prod.mk.injEq, and_true, true_and, and_self, if_true, if_false, reduceCtorEq, Nat.reduceLeDiff, Nat.reduceLT, Nat.reduceAdd, Nat.reduceEqDiff, false_and, and_false, exists_const, exists_eq_left, exists_eq_left', exists_and_left, and_assoc, nltL, nltR, nleL, nleR, neqL, neqR, naL, naR, nmL, nmR, nI_ltI, nI_leI, nI_eq, nI_add, nI_mul, nI_clamp, n0l, n0r, nm1, nm1', nm1l, nm1r, nm1g, nsL, nI_m1, Nat.add_sub_cancel, vpn, vpL, nclL, le32, leLL, leLN, leNL, leNN, inA, nb0, nb1, gi_wi_n, gi_wi_e, gi_rw_n, gi_rw_e, aWi_rw, ifl, ifl_, ifle, ifle_, ifq, ifq_, ifnq, ifnq_, ifnl, ifnl_, ifnle, ifnle_, z52 ok, r52_2 ok, k2, k5]
  rw [sp_row (n := 80) (by simp only [true_or, or_true, or_false, false_or, or_self, Int32.reduceLT, Int32.reduceLE, Nat.add_zero, Nat.zero_add, Nat.not_lt_zero, not_false_eq_true, not_true_eq_false, and_assoc, kl_q, kl_i, kl_r, kl_n, kl_0, kl_l, cs_0, cs_i, cs_r, cs_n, cs_l, aRf_s, aRf_n, gi_wl, gi_wr, gl_wi, gl_wl, gl_wr, gr_wi, gr_wl, gr_wr, sh_wi, sh_wl, sh_wr, gl_cp, gr_cp, sh_cp, gl_rw, gr_rw, sh_rw, gi_rl, gr_rl, sh_rl, Option.toList_some, Option.toList_none, List.nil_append, List.cons_append, List.append_nil, Option.some.injEq, Prod.mk.injEq, and_true, true_and, and_self, if_true, if_false, reduceCtorEq, Nat.reduceLeDiff, Nat.reduceLT, Nat.reduceAdd, Nat.reduceEqDiff, false_and, and_false, exists_const, exists_eq_left, exists_eq_left', exists_and_left, and_assoc]; exact z55 ok) (by simp only [true_or, or_true, or_false, false_or, or_self, Int32.reduceLT, Int32.reduceLE, Nat.add_zero, Nat.zero_add, Nat.not_lt_zero, not_false_eq_true, not_true_eq_false, and_assoc, kl_q, kl_i, kl_r, kl_n, kl_0, kl_l, cs_0, cs_i, cs_r, cs_n, cs_l, aRf_s, aRf_n, gi_wl, gi_wr, gl_wi, gl_wl, gl_wr, gr_wi, gr_wl, gr_wr, sh_wi, sh_wl, sh_wr, gl_cp, gr_cp, sh_cp, gl_rw, gr_rw, sh_rw, gi_rl, gr_rl, sh_rl, Option.toList_some, Option.toList_none, List.nil_append, List.cons_append, List.append_nil, Option.some.injEq, Prod.mk.injEq, and_true, true_and, and_self, if_true, if_false, reduceCtorEq, Nat.reduceLeDiff, Nat.reduceLT, Nat.reduceAdd, Nat.reduceEqDiff, false_and, and_false, exists_const, exists_eq_left, exists_eq_left', exists_and_left, and_assoc]; exact k8) (by omega) (by decide), aCp_rw]
  have c1 := cc.1
  simp (disch := omega) only [s30_0, s30_0n, s30_0q, s30_1, s30_4, s30_4n, s30_4q, s30_5, s30_8, s30_11, s30_11n, s30_11q, s30_12, s30_15, s30_15n, s30_15q, s30_16, s30_19, s30_22, s30_22n, s30_22q, s30_23, s30_26, s30_26n, s30_26q, s30_27, s30_30, s30_33, s30_33n, s30_33q, s30_34, s30_34n, s30_34q, s30_35, s30_38, s30_41, s30_41n, s30_41q, s30_42, s30_42n, s30_42q, s30_43, s30_46, s30_49, true_or, or_true, or_false, false_or, or_self, Int32.reduceLT, Int32.reduceLE, Nat.add_zero, Nat.zero_add, Nat.not_lt_zero, not_false_eq_true, not_true_eq_false, and_assoc, kl_q, kl_i, kl_r, kl_n, kl_0, kl_l, cs_0, cs_i, cs_r, cs_n, cs_l, aRf_s, aRf_n, gi_wl, gi_wr, gl_wi, gl_wl, gl_wr, gr_wi, gr_wl, gr_wr, sh_wi, sh_wl, sh_wr, gl_cp, gr_cp, sh_cp, gl_rw, gr_rw, sh_rw, gi_rl, gr_rl, sh_rl, Option.toList_some, Option.toList_none, List.nil_append, List.cons_append, List.append_nil, Option.some.injEq, Prod.mk.injEq, and_true, true_and, and_self, if_true, if_false, reduceCtorEq, Nat.reduceLeDiff, Nat.reduceLT, Nat.reduceAdd, Nat.reduceEqDiff, false_and, and_false, exists_const, exists_eq_left, exists_eq_left', exists_and_left, and_assoc, nltL, nltR, nleL, nleR, neqL, neqR, naL, naR, nmL, nmR, nI_ltI, nI_leI, nI_eq, nI_add, nI_mul, nI_clamp, n0l, n0r, nm1, nm1', nm1l, nm1r, nm1g, nsL, nI_m1, Nat.add_sub_cancel, vpn, vpL, nclL, le32, leLL, leLN, leNL, leNN, inA, nb0, nb1, gi_wi_n, gi_wi_e, gi_rw_n, gi_rw_e, aWi_rw, ifl, ifl_, ifle, ifle_, ifq, ifq_, ifnq, ifnq_, ifnl, ifnl_, ifnle, ifnle_, z52 ok, k2, r4, c1]
  refine hq _ (((((Ag.refl ok).rw (fun k => by omega)).rw (fun k => by omega)).rw (fun k => by omega)).wi (by omega) |>.wi (by omega)) ⟨?_, ?_, fun p t hp => ?_, fun q c hq => ?_⟩
  · rw [gi_wi_n (by omega), gi_wi_e]
  · rw [gi_wi_e]
  · have hp2 : p < ts.length := (List.getElem?_eq_some_iff.mp hp).1
    rw [gi_wi_n (by omega), gi_wi_n (by omega), gi_rw_n (by omega), gi_rw_n (by omega), gi_rw_e, if_pos (by omega)]
    exact r5 p t hp
  · have hq2 : q < cs.length := (List.getElem?_eq_some_iff.mp hq).1
    rw [gi_wi_n (by omega), gi_wi_n (by omega), gi_rw_n (by omega), gi_rw_e, if_pos (by omega), gi_wi_n (by omega), gi_wi_n (by omega), gi_rw_e, if_pos (by omega)]
    have := cc.2 q c hq
    refine ⟨?_, ?_⟩
    · first | exact this.1 | (rw [gi_rw_n (by omega)]; exact this.1)
    · first | exact this.2 | (rw [gi_rw_n (by omega), gi_rw_n (by omega)]; exact this.2)
end Q1
