-- deps: 86.cls2
/-! ===== laws as texts: how the reference reads clauses ===== -/
def MY (sl a k : Nat) : Prop := ML sl a k ∨ ((a = 405 ∨ a = 406 ∨ a = 407) ∧ 140 * sl ≤ k ∧ k < 140 * sl + 140) ∨ (a = 404 ∧ k = sl)
def ClM (h : aM) (sl : Nat) (cs : List Cl) : Prop := gi h 404 sl = nI cs.length ∧ ∀ i c, cs[i]? = some c → gi h 405 (140 * sl + i) = nI c.1 ∧ gi h 406 (140 * sl + i) = nI c.2.1 ∧ gi h 407 (140 * sl + i) = nI c.2.2
def PostJ (B : Nat → Nat) (T : Nat) (ts : List Tk) (cs : List Cl) (sl : Nat) (r : ClR) (h : aM) : Prop := match r with
  | .inl q => OK h ∧ gi h 399 4 = nI q
  | .inr (p, t1, t2) => RdM h B T p (ts ++ (t1 ++ t2)) sl 0 ∧ ClM h sl (cs ++ [(ts.length, ts.length + t1.length, ts.length + t1.length + t2.length)])
section J1
variable {d : Nat} {h : aM} {Q : Option Value → aM → Prop} {B : Nat → Nat} {T p n sl : Nat} {ts t1 : List Tk} {cs : List Cl} {r : ClR}
theorem ml_my {a k : Nat} (z : ML sl a k) : MY sl a k := Or.inl z
theorem m3_my {a k : Nat} (z : a = 399 ∧ k = 3) : MY sl a k := Or.inl (ml3 z)
theorem ClM.ag {h' : aM} (c : ClM h sl cs) (a : Ag (ML sl) h h') : ClM h' sl cs := ⟨by rw [a.2 _ _ (by unfold ML; omega), c.1], fun i x hx => by
  rw [a.2 405 _ (by unfold ML; omega), a.2 406 _ (by unfold ML; omega), a.2 407 _ (by unfold ML; omega)]
  exact c.2 i x hx⟩
theorem RdM.my {h' : aM} (r : RdM h B T p ts sl 0) (a : Ag (fun a _ => 404 ≤ a ∧ a ≤ 407) h h') : RdM h' B T p ts sl 0 := by
  obtain ⟨r1, r2, r3, r4, r5, r6, r7, r8⟩ := r
  refine ⟨r1.ag a (by omega) (by omega), by rw [a.2 _ _ (by omega), r2], by rw [a.2 _ _ (by omega), r3], by rw [a.2 _ _ (by omega), r4], by rw [a.2 _ _ (by omega), r5], r6, by rw [a.2 _ _ (by omega), r7], fun i t ht => ?_⟩
  rw [a.2 401 _ (by omega), a.2 402 _ (by omega)]
  exact r8 i t ht
theorem ClM.k {h' : aM} (c : ClM h sl cs) (a : Ag (fun a k => (a = 405 ∨ a = 406 ∨ a = 407) ∧ k = 140 * sl + cs.length) h h') : ClM h' sl cs := ⟨by rw [a.2 _ _ (by omega), c.1], fun i x hx => by
  have hi : i < cs.length := (List.getElem?_eq_some_iff.mp hx).1
  rw [a.2 405 _ (by omega), a.2 406 _ (by omega), a.2 407 _ (by omega)]
  exact c.2 i x hx⟩
/-- the clause is read: what is written down at its end -/
theorem m_cl251 {a b : Nat} {w : Option Value} (rc : RdM h B T p ts sl 0) (cc : ClM h sl cs) (hc : cs.length < 80) (e5 : gi h 405 (140 * sl + cs.length) = nI a) (e6 : gi h 406 (140 * sl + cs.length) = nI b) (hq : ∀ h', Ag (MY sl) h h' → RdM h' B T p ts sl 0 → ClM h' sl (cs ++ [(a, b, ts.length)]) → Q none h') :
    AW d 186 251 [some (.ref 399), some (.int (nI (140 * sl + cs.length))), w] [] h Q := by
  have ok := rc.ok
  have r5 := rc.2.2.2.2.1
  have r6 := rc.2.2.2.2.2.1
  have r7 := rc.2.2.2.2.2.2.1
  have c1 := cc.1
  have i1 : 140 * sl + cs.length < 700 := by omega
  have i2 : sl < 5 := by omega
  simp (disch := omega) only [s186_251, s186_252, s186_255, s186_256, s186_257, s186_260, s186_261, s186_264, s186_265, s186_266, s186_267, s186_270, s186_271, s186_274, s186_275, s186_276, s186_277, s186_278, s186_279, true_or, or_true, or_false, false_or, or_self, Int32.reduceLT, Int32.reduceLE, Nat.add_zero, Nat.zero_add, Nat.not_lt_zero, not_false_eq_true, not_true_eq_false, and_assoc, kl_q, kl_i, kl_r, kl_n, kl_0, kl_l, cs_0, cs_i, cs_r, cs_n, cs_l, aRf_s, aRf_n, gi_wl, gi_wr, gl_wi, gl_wl, gl_wr, gr_wi, gr_wl, gr_wr, sh_wi, sh_wl, sh_wr, gl_cp, gr_cp, sh_cp, gl_rw, gr_rw, sh_rw, gi_rl, gr_rl, sh_rl, Option.toList_some, Option.toList_none, List.nil_append, List.cons_append, List.append_nil, Option.some.injEq, Prod.mk.injEq, and_true, true_and, and_self, if_true, if_false, reduceCtorEq, Nat.reduceLeDiff, Nat.reduceLT, Nat.reduceAdd, Nat.reduceEqDiff, false_and, and_false, exists_const, exists_eq_left, exists_eq_left', exists_and_left, and_assoc, nltL, nltR, nleL, nleR, neqL, neqR, naL, naR, nmL, nmR, nI_ltI, nI_leI, nI_eq, nI_add, nI_mul, nI_clamp, n0l, n0r, nm1, nm1', nm1l, nm1r, nm1g, nsL, nI_m1, Nat.add_sub_cancel, vpn, vpL, nclL, le32, leLL, leLN, leNL, leNN, inA, nb0, nb1, gi_wi_n, gi_wi_e, gi_rw_n, gi_rw_e, aWi_rw, ifl, ifl_, ifle, ifle_, ifq, ifq_, ifnq, ifnq_, ifnl, ifnl_, ifnle, ifnle_, z399 ok, z403 ok, z404 ok, z407 ok, r399_8 ok, r399_9 ok, r399_12 ok, r5, r7, c1, i1, i2]
  have a1 : Ag (fun a k => (a = 405 ∨ a = 406 ∨ a = 407) ∧ k = 140 * sl + cs.length) h (aWi h 407 (140 * sl + cs.length) (nI ts.length)) := (Ag.refl ok).wi (by omega)
  have a2 : Ag (fun a _ => 404 ≤ a ∧ a ≤ 407) h (aWi (aWi h 407 (140 * sl + cs.length) (nI ts.length)) 404 sl (nI (cs.length + 1))) := ((Ag.refl ok).wi (by omega)).wi (by omega)
  have a3 : Ag (MY sl) h (aWi (aWi h 407 (140 * sl + cs.length) (nI ts.length)) 404 sl (nI (cs.length + 1))) := ((Ag.refl ok).wi (by unfold MY; omega)).wi (by unfold MY; omega)
  refine hq _ a3 (rc.my a2) ⟨by rw [gi_wi_e, List.length_append]; rfl, fun i c hi => ?_⟩
  rw [gi_wi_n (by omega), gi_wi_n (by omega), gi_wi_n (by omega), gi_wi_n (by omega), gi_wi_n (by omega)]
  rcases app_get hi with ⟨rfl, rfl⟩ | ⟨hl, hi⟩
  · rw [gi_wi_e, e5, e6]
    exact ⟨rfl, rfl, rfl⟩
  · rw [gi_wi_n (by omega)]
    exact cc.2 i c hi
/-- something was wrong: nothing matters any more -/
theorem m_cl251E {q J c : Nat} {w : Option Value} (ed : EdM h sl q J) (e4 : gi h 404 sl = nI c) (hc : c < 80) (hq : ∀ h', Ag (MY sl) h h' → OK h' → gi h' 399 4 = nI q → Q none h') :
    AW d 186 251 [some (.ref 399), some (.int (nI (140 * sl + c))), w] [] h Q := by
  obtain ⟨ok, r2, r5, r6, l, r7, r8⟩ := ed
  have i1 : 140 * sl + c < 700 := by omega
  have i2 : sl < 5 := by omega
  simp (disch := omega) only [s186_251, s186_252, s186_255, s186_256, s186_257, s186_260, s186_261, s186_264, s186_265, s186_266, s186_267, s186_270, s186_271, s186_274, s186_275, s186_276, s186_277, s186_278, s186_279, true_or, or_true, or_false, false_or, or_self, Int32.reduceLT, Int32.reduceLE, Nat.add_zero, Nat.zero_add, Nat.not_lt_zero, not_false_eq_true, not_true_eq_false, and_assoc, kl_q, kl_i, kl_r, kl_n, kl_0, kl_l, cs_0, cs_i, cs_r, cs_n, cs_l, aRf_s, aRf_n, gi_wl, gi_wr, gl_wi, gl_wl, gl_wr, gr_wi, gr_wl, gr_wr, sh_wi, sh_wl, sh_wr, gl_cp, gr_cp, sh_cp, gl_rw, gr_rw, sh_rw, gi_rl, gr_rl, sh_rl, Option.toList_some, Option.toList_none, List.nil_append, List.cons_append, List.append_nil, Option.some.injEq, Prod.mk.injEq, and_true, true_and, and_self, if_true, if_false, reduceCtorEq, Nat.reduceLeDiff, Nat.reduceLT, Nat.reduceAdd, Nat.reduceEqDiff, false_and, and_false, exists_const, exists_eq_left, exists_eq_left', exists_and_left, and_assoc, nltL, nltR, nleL, nleR, neqL, neqR, naL, naR, nmL, nmR, nI_ltI, nI_leI, nI_eq, nI_add, nI_mul, nI_clamp, n0l, n0r, nm1, nm1', nm1l, nm1r, nm1g, nsL, nI_m1, Nat.add_sub_cancel, vpn, vpL, nclL, le32, leLL, leLN, leNL, leNN, inA, nb0, nb1, gi_wi_n, gi_wi_e, gi_rw_n, gi_rw_e, aWi_rw, ifl, ifl_, ifle, ifle_, ifq, ifq_, ifnq, ifnq_, ifnl, ifnl_, ifnle, ifnle_, z399 ok, z403 ok, z404 ok, z407 ok, r399_8 ok, r399_9 ok, r399_12 ok, r5, r8, e4, i1, i2]
  refine hq _ (((Ag.refl ok).wi (by unfold MY; omega)).wi (by unfold MY; omega)) ok ?_
  rw [gi_wi_n (by omega), gi_wi_n (by omega), r2]
theorem m_cl184E {q J c : Nat} {w : Int32} (ed : EdM h sl q J) (hq9 : q < 2 ^ 31) (e4 : gi h 404 sl = nI c) (hc : c < 80) (hq : ∀ h', Ag (MY sl) h h' → OK h' → gi h' 399 4 = nI q → Q none h') :
    AW d 186 184 [some (.ref 399), some (.int (nI (140 * sl + c))), some (.int w)] [] h Q := by
  have ok := ed.1
  have r2 := ed.2.1
  have r6 := ed.2.2.2.1
  have i1 : 140 * sl + c < 700 := by omega
  have ed2 : EdM (aWi h 406 (140 * sl + c) (gi h 405 (140 * sl + c))) sl q J := by
    obtain ⟨ok, r2, r5, r6, l, r7, r8⟩ := ed
    exact ⟨ok, by rw [gi_wi_n (by omega), r2], by rw [gi_wi_n (by omega), r5], r6, l, r7, by rw [gi_wi_n (by omega), r8]⟩
  have a2 : Ag (MY sl) h (aWi h 406 (140 * sl + c) (gi h 405 (140 * sl + c))) := (Ag.refl ok).wi (by unfold MY; omega)
  have t := m_cl251E (d := d) (w := some (.int w)) (Q := Q) ed2 (show gi _ 404 sl = nI c by rw [gi_wi_n (by omega), e4]) hc (fun h' a3 o3 e3 => hq h' (a2.trans a3) o3 e3)
  by_cases hw : w = 0
  · subst hw
    simp (disch := omega) only [s186_184, s186_185, s186_188, s186_189, s186_190, s186_193, s186_194, s186_195, s186_196, s186_197, s186_200, s186_201, s186_204, s186_205, s186_208, s186_209, s186_212, s186_214, s186_217, s186_218, s186_221, s186_222, s186_223, s186_223i, s186_224, s186_227, s186_228, s186_229, s186_232, s186_233, s186_236, s186_237, s186_238, s186_241, s186_242, s186_245, s186_246, s186_247, s186_248, true_or, or_true, or_false, false_or, or_self, Int32.reduceLT, Int32.reduceLE, Nat.add_zero, Nat.zero_add, Nat.not_lt_zero, not_false_eq_true, not_true_eq_false, and_assoc, kl_q, kl_i, kl_r, kl_n, kl_0, kl_l, cs_0, cs_i, cs_r, cs_n, cs_l, aRf_s, aRf_n, gi_wl, gi_wr, gl_wi, gl_wl, gl_wr, gr_wi, gr_wl, gr_wr, sh_wi, sh_wl, sh_wr, gl_cp, gr_cp, sh_cp, gl_rw, gr_rw, sh_rw, gi_rl, gr_rl, sh_rl, Option.toList_some, Option.toList_none, List.nil_append, List.cons_append, List.append_nil, Option.some.injEq, Prod.mk.injEq, and_true, true_and, and_self, if_true, if_false, reduceCtorEq, Nat.reduceLeDiff, Nat.reduceLT, Nat.reduceAdd, Nat.reduceEqDiff, false_and, and_false, exists_const, exists_eq_left, exists_eq_left', exists_and_left, and_assoc, nltL, nltR, nleL, nleR, neqL, neqR, naL, naR, nmL, nmR, nI_ltI, nI_leI, nI_eq, nI_add, nI_mul, nI_clamp, n0l, n0r, nm1, nm1', nm1l, nm1r, nm1g, nsL, nI_m1, Nat.add_sub_cancel, vpn, vpL, nclL, le32, leLL, leLN, leNL, leNN, inA, nb0, nb1, gi_wi_n, gi_wi_e, gi_rw_n, gi_rw_e, aWi_rw, ifl, ifl_, ifle, ifle_, ifq, ifq_, ifnq, ifnq_, ifnl, ifnl_, ifnle, ifnle_, z399 ok, z405 ok, z406 ok, r399_10 ok, r399_11 ok, i1]
    exact t
  · simp (disch := omega) only [s186_184, s186_185, s186_188, s186_189, s186_190, s186_193, s186_194, s186_195, s186_196, s186_197, s186_200, s186_201, s186_204, s186_205, s186_208, s186_209, s186_212, s186_214, s186_217, s186_218, s186_221, s186_222, s186_223, s186_223i, s186_224, s186_227, s186_228, s186_229, s186_232, s186_233, s186_236, s186_237, s186_238, s186_241, s186_242, s186_245, s186_246, s186_247, s186_248, true_or, or_true, or_false, false_or, or_self, Int32.reduceLT, Int32.reduceLE, Nat.add_zero, Nat.zero_add, Nat.not_lt_zero, not_false_eq_true, not_true_eq_false, and_assoc, kl_q, kl_i, kl_r, kl_n, kl_0, kl_l, cs_0, cs_i, cs_r, cs_n, cs_l, aRf_s, aRf_n, gi_wl, gi_wr, gl_wi, gl_wl, gl_wr, gr_wi, gr_wl, gr_wr, sh_wi, sh_wl, sh_wr, gl_cp, gr_cp, sh_cp, gl_rw, gr_rw, sh_rw, gi_rl, gr_rl, sh_rl, Option.toList_some, Option.toList_none, List.nil_append, List.cons_append, List.append_nil, Option.some.injEq, Prod.mk.injEq, and_true, true_and, and_self, if_true, if_false, reduceCtorEq, Nat.reduceLeDiff, Nat.reduceLT, Nat.reduceAdd, Nat.reduceEqDiff, false_and, and_false, exists_const, exists_eq_left, exists_eq_left', exists_and_left, and_assoc, nltL, nltR, nleL, nleR, neqL, neqR, naL, naR, nmL, nmR, nI_ltI, nI_leI, nI_eq, nI_add, nI_mul, nI_clamp, n0l, n0r, nm1, nm1', nm1l, nm1r, nm1g, nsL, nI_m1, Nat.add_sub_cancel, vpn, vpL, nclL, le32, leLL, leLN, leNL, leNN, inA, nb0, nb1, gi_wi_n, gi_wi_e, gi_rw_n, gi_rw_e, aWi_rw, ifl, ifl_, ifle, ifle_, ifq, ifq_, ifnq, ifnq_, ifnl, ifnl_, ifnle, ifnle_, z399 ok, z405 ok, z406 ok, r399_10 ok, r399_11 ok, i1, hw, r2]
    exact t
theorem m_behind (hr : bhG B T n p t1 = some r) (hp : p ≤ T) (hl : (ts ++ t1).length ≤ p) (rc : RdM h B T p (ts ++ t1) sl 0) (cc : ClM h sl cs) (hc : cs.length < 80) (e5 : gi h 405 (140 * sl + cs.length) = nI ts.length) (hq : ∀ h', Ag (MY sl) h h' → PostJ B T ts cs sl r h' → Q none h') :
    AW (d + 12 * (7 - 0) + 13) 186 184 [some (.ref 399), some (.int (nI (140 * sl + cs.length))), some (.int 1)] [] h Q := by
  have ok := rc.ok
  have hbb := rc.1.2.2.2.2
  have hT := rc.1.2.1
  have hs := sk_le (B := B) hp
  have r6 := rc.2.2.2.2.2.1
  have w0 := rc.2.2.1
  have i1 : 140 * sl + cs.length < 700 := by omega
  have i2 : sl < 5 := by omega
  have l63 := lk_sg (q := sk B T p) hbb (b := 63) (by omega) (by omega)
  rw [show nI 63 = (63 : Int32) from rfl] at l63
  unfold bhG at hr
  simp (disch := omega) only [s186_184, s186_185, s186_188, s186_189, s186_190, s186_193, s186_194, s186_195, s186_196, s186_197, s186_200, s186_201, s186_204, s186_205, s186_208, s186_209, true_or, or_true, or_false, false_or, or_self, Int32.reduceLT, Int32.reduceLE, Nat.add_zero, Nat.zero_add, Nat.not_lt_zero, not_false_eq_true, not_true_eq_false, and_assoc, kl_q, kl_i, kl_r, kl_n, kl_0, kl_l, cs_0, cs_i, cs_r, cs_n, cs_l, aRf_s, aRf_n, gi_wl, gi_wr, gl_wi, gl_wl, gl_wr, gr_wi, gr_wl, gr_wr, sh_wi, sh_wl, sh_wr, gl_cp, gr_cp, sh_cp, gl_rw, gr_rw, sh_rw, gi_rl, gr_rl, sh_rl, Option.toList_some, Option.toList_none, List.nil_append, List.cons_append, List.append_nil, Option.some.injEq, Prod.mk.injEq, and_true, true_and, and_self, if_true, if_false, reduceCtorEq, Nat.reduceLeDiff, Nat.reduceLT, Nat.reduceAdd, Nat.reduceEqDiff, false_and, and_false, exists_const, exists_eq_left, exists_eq_left', exists_and_left, and_assoc, nltL, nltR, nleL, nleR, neqL, neqR, naL, naR, nmL, nmR, nI_ltI, nI_leI, nI_eq, nI_add, nI_mul, nI_clamp, n0l, n0r, nm1, nm1', nm1l, nm1r, nm1g, nsL, nI_m1, Nat.add_sub_cancel, vpn, vpL, nclL, le32, leLL, leLN, leNL, leNN, inA, nb0, nb1, gi_wi_n, gi_wi_e, gi_rw_n, gi_rw_e, aWi_rw, ifl, ifl_, ifle, ifle_, ifq, ifq_, ifnq, ifnq_, ifnl, ifnl_, ifnle, ifnle_, z399 ok, z405 ok, z406 ok, r399_10 ok, r399_11 ok, i1, e5, w0]
  obtain ⟨h1, eh1⟩ : ∃ h1, h1 = aWi h 406 (140 * sl + cs.length) (nI ts.length) := ⟨_, rfl⟩
  rw [← eh1]
  have a1 : Ag (fun a k => (a = 405 ∨ a = 406 ∨ a = 407) ∧ k = 140 * sl + cs.length) h h1 := by
    rw [eh1]
    exact (Ag.refl ok).wi (by omega)
  have b1 : Ag (MY sl) h h1 := a1.mono (fun a k z => by unfold MY; omega)
  have rc1 := rc.my (a1.mono (fun a k z => by omega))
  have cc1 := cc.k a1
  have e51 : gi h1 405 (140 * sl + cs.length) = nI ts.length := by rw [eh1, gi_wi_n (by omega), e5]
  refine m_lookM rc1.1 hp rc1.2.1 (fun h2 a2 f2 => ?_)
  have rc2 := rc1.at a2 f2
  have ok := rc2.ok
  have b2 : Ag (ML sl) h1 h2 := a2.mono (fun a k z => ml3 z)
  have cc2 := cc1.ag b2
  have e52 : gi h2 405 (140 * sl + cs.length) = nI ts.length := by rw [b2.2 _ _ (by unfold ML; omega), e51]
  have w2 := rc2.2.2.1
  have r52 := rc2.2.2.2.2.1
  have r72 := rc2.2.2.2.2.2.2.1
  by_cases b63 : sgB B T (sk B T p) = 63
  · rw [if_pos b63] at hr
    have f63 := l63.mpr b63
    have hq1 := sg_lt (by omega) b63
    simp (disch := omega) only [s186_212, s186_214, s186_217, s186_218, s186_221, s186_222, s186_223, s186_223i, s186_224, s186_227, s186_228, s186_229, s186_232, s186_233, s186_236, s186_237, s186_238, s186_241, s186_242, s186_245, s186_246, s186_247, s186_248, true_or, or_true, or_false, false_or, or_self, Int32.reduceLT, Int32.reduceLE, Nat.add_zero, Nat.zero_add, Nat.not_lt_zero, not_false_eq_true, not_true_eq_false, and_assoc, kl_q, kl_i, kl_r, kl_n, kl_0, kl_l, cs_0, cs_i, cs_r, cs_n, cs_l, aRf_s, aRf_n, gi_wl, gi_wr, gl_wi, gl_wl, gl_wr, gr_wi, gr_wl, gr_wr, sh_wi, sh_wl, sh_wr, gl_cp, gr_cp, sh_cp, gl_rw, gr_rw, sh_rw, gi_rl, gr_rl, sh_rl, Option.toList_some, Option.toList_none, List.nil_append, List.cons_append, List.append_nil, Option.some.injEq, Prod.mk.injEq, and_true, true_and, and_self, if_true, if_false, reduceCtorEq, Nat.reduceLeDiff, Nat.reduceLT, Nat.reduceAdd, Nat.reduceEqDiff, false_and, and_false, exists_const, exists_eq_left, exists_eq_left', exists_and_left, and_assoc, nltL, nltR, nleL, nleR, neqL, neqR, naL, naR, nmL, nmR, nI_ltI, nI_leI, nI_eq, nI_add, nI_mul, nI_clamp, n0l, n0r, nm1, nm1', nm1l, nm1r, nm1g, nsL, nI_m1, Nat.add_sub_cancel, vpn, vpL, nclL, le32, leLL, leLN, leNL, leNN, inA, nb0, nb1, gi_wi_n, gi_wi_e, gi_rw_n, gi_rw_e, aWi_rw, ifl, ifl_, ifle, ifle_, ifq, ifq_, ifnq, ifnq_, ifnl, ifnl_, ifnle, ifnle_, z399 ok, z403 ok, z406 ok, r399_8 ok, r399_11 ok, i1, i2, f63, f2, r52, r72]
    obtain ⟨h3, eh3⟩ : ∃ h3, h3 = aWi (aWi h2 399 3 (nI (sk B T p + 1))) 406 (140 * sl + cs.length) (nI (ts ++ t1).length) := ⟨_, rfl⟩
    rw [← eh3]
    have rc2' : RdM (aWi h2 399 3 (nI (sk B T p + 1))) B T (sk B T p + 1) (ts ++ t1) sl 0 := rc2.at ((Ag.refl ok).wi ⟨rfl, rfl⟩) gi_wi_e
    have b2' : Ag (ML sl) h2 (aWi h2 399 3 (nI (sk B T p + 1))) := (Ag.refl ok).wi (ml3 ⟨rfl, rfl⟩)
    have a3 : Ag (fun a k => (a = 405 ∨ a = 406 ∨ a = 407) ∧ k = 140 * sl + cs.length) (aWi h2 399 3 (nI (sk B T p + 1))) h3 := by
      rw [eh3]
      exact (Ag.refl rc2'.ok).wi (by omega)
    have rc3 := rc2'.my (a3.mono (fun a k z => by omega))
    have cc3 := (cc2.ag b2').k a3
    have b3 : Ag (MY sl) h h3 := ((b1.trans (b2.mono (fun a k z => ml_my z))).trans (b2'.mono (fun a k z => ml_my z))).trans (a3.mono (fun a k z => by unfold MY; omega))
    have e53 : gi h3 405 (140 * sl + cs.length) = nI ts.length := by rw [eh3, gi_wi_n (by omega), gi_wi_n (by omega), e52]
    have e63 : gi h3 406 (140 * sl + cs.length) = nI (ts ++ t1).length := by rw [eh3, gi_wi_e]
    have ok := rc3.ok
    rw [show d + 12 * (7 - 0) + 12 = (d + 5) + 12 * (7 - 0) + 7 by omega]
    rcases bnc_of hr with ⟨q1, e1, rfl⟩ | ⟨p2, t2, e2, h5⟩
    · have ps := pr_pos _ _ _ _ _ e1 (by omega)
      unfold PosR at ps
      simp only at ps
      refine simM B T n 0 0 _ _ (ts ++ t1) sl _ (d + 5) _ e1 (by omega) (by omega) (by omega) rc3 (fun h4 a4 ed => ?_)
      have ed : EdM h4 sl q1 (250 + 10 * (7 - 0) + 2) := ed
      simp (disch := omega) only [s186_248, true_or, or_true, or_false, false_or, or_self, Int32.reduceLT, Int32.reduceLE, Nat.add_zero, Nat.zero_add, Nat.not_lt_zero, not_false_eq_true, not_true_eq_false, and_assoc, kl_q, kl_i, kl_r, kl_n, kl_0, kl_l, cs_0, cs_i, cs_r, cs_n, cs_l, aRf_s, aRf_n, gi_wl, gi_wr, gl_wi, gl_wl, gl_wr, gr_wi, gr_wl, gr_wr, sh_wi, sh_wl, sh_wr, gl_cp, gr_cp, sh_cp, gl_rw, gr_rw, sh_rw, gi_rl, gr_rl, sh_rl, Option.toList_some, Option.toList_none, List.nil_append, List.cons_append, List.append_nil, Option.some.injEq, Prod.mk.injEq, and_true, true_and, and_self, if_true, if_false, reduceCtorEq, Nat.reduceLeDiff, Nat.reduceLT, Nat.reduceAdd, Nat.reduceEqDiff, false_and, and_false, exists_const, exists_eq_left, exists_eq_left', exists_and_left, and_assoc]
      exact m_cl251E ed (cc3.ag a4).1 hc (fun h5 a5 o5 e5 => hq h5 ((b3.trans (a4.mono (fun a k z => ml_my z))).trans a5) ⟨o5, e5⟩)
    · cases h5
      refine simM B T n 0 0 _ _ (ts ++ t1) sl _ (d + 5) _ e2 (by omega) (by omega) (by omega) rc3 (fun h4 a4 rc4 => ?_)
      have rc4 : RdM h4 B T p2 (ts ++ t1 ++ t2) sl 0 := rc4
      simp (disch := omega) only [s186_248, true_or, or_true, or_false, false_or, or_self, Int32.reduceLT, Int32.reduceLE, Nat.add_zero, Nat.zero_add, Nat.not_lt_zero, not_false_eq_true, not_true_eq_false, and_assoc, kl_q, kl_i, kl_r, kl_n, kl_0, kl_l, cs_0, cs_i, cs_r, cs_n, cs_l, aRf_s, aRf_n, gi_wl, gi_wr, gl_wi, gl_wl, gl_wr, gr_wi, gr_wl, gr_wr, sh_wi, sh_wl, sh_wr, gl_cp, gr_cp, sh_cp, gl_rw, gr_rw, sh_rw, gi_rl, gr_rl, sh_rl, Option.toList_some, Option.toList_none, List.nil_append, List.cons_append, List.append_nil, Option.some.injEq, Prod.mk.injEq, and_true, true_and, and_self, if_true, if_false, reduceCtorEq, Nat.reduceLeDiff, Nat.reduceLT, Nat.reduceAdd, Nat.reduceEqDiff, false_and, and_false, exists_const, exists_eq_left, exists_eq_left', exists_and_left, and_assoc]
      refine m_cl251 rc4 (cc3.ag a4) hc (show gi h4 405 _ = _ by rw [a4.2 _ _ (by unfold ML; omega), e53]) (show gi h4 406 _ = _ by rw [a4.2 _ _ (by unfold ML; omega), e63]) (fun h5 a5 rc5 cc5 => ?_)
      refine hq h5 ((b3.trans (a4.mono (fun a k z => ml_my z))).trans a5) ⟨by rw [List.append_assoc] at rc5; exact rc5, ?_⟩
      simp only [List.length_append] at cc5
      exact cc5
  · rw [if_neg b63] at hr
    cases hr
    have n63 : ¬ lkI B T (sk B T p) = 63 := fun q => b63 (l63.mp q)
    simp (disch := omega) only [s186_212, s186_214, s186_217, s186_218, s186_221, s186_222, s186_223, s186_223i, s186_224, s186_227, s186_228, s186_229, s186_232, s186_233, s186_236, s186_237, s186_238, s186_241, s186_242, s186_245, s186_246, s186_247, s186_248, true_or, or_true, or_false, false_or, or_self, Int32.reduceLT, Int32.reduceLE, Nat.add_zero, Nat.zero_add, Nat.not_lt_zero, not_false_eq_true, not_true_eq_false, and_assoc, kl_q, kl_i, kl_r, kl_n, kl_0, kl_l, cs_0, cs_i, cs_r, cs_n, cs_l, aRf_s, aRf_n, gi_wl, gi_wr, gl_wi, gl_wl, gl_wr, gr_wi, gr_wl, gr_wr, sh_wi, sh_wl, sh_wr, gl_cp, gr_cp, sh_cp, gl_rw, gr_rw, sh_rw, gi_rl, gr_rl, sh_rl, Option.toList_some, Option.toList_none, List.nil_append, List.cons_append, List.append_nil, Option.some.injEq, Prod.mk.injEq, and_true, true_and, and_self, if_true, if_false, reduceCtorEq, Nat.reduceLeDiff, Nat.reduceLT, Nat.reduceAdd, Nat.reduceEqDiff, false_and, and_false, exists_const, exists_eq_left, exists_eq_left', exists_and_left, and_assoc, nltL, nltR, nleL, nleR, neqL, neqR, naL, naR, nmL, nmR, nI_ltI, nI_leI, nI_eq, nI_add, nI_mul, nI_clamp, n0l, n0r, nm1, nm1', nm1l, nm1r, nm1g, nsL, nI_m1, Nat.add_sub_cancel, vpn, vpL, nclL, le32, leLL, leLN, leNL, leNN, inA, nb0, nb1, gi_wi_n, gi_wi_e, gi_rw_n, gi_rw_e, aWi_rw, ifl, ifl_, ifle, ifle_, ifq, ifq_, ifnq, ifnq_, ifnl, ifnl_, ifnle, ifnle_, z399 ok, n63, m_bad ok f2 w2]
    exact hq _ ((b1.trans (b2.mono (fun a k z => ml_my z))).trans ((Ag.refl ok).wi (Or.inl (Or.inl ⟨rfl, Or.inr (Or.inl rfl)⟩)))) ⟨ok, gi_wi_e⟩
end J1
