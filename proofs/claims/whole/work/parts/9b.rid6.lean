-- deps: 9a.rid5
section D6
variable {B : Nat → Nat} {T : Nat} {d : Nat} {Q : Option Value → aM → Prop} {r : Nat ⊕ RS}
theorem m3_rm {a k : Nat} (z : a = 399 ∧ k = 3) : RM a k := Or.inl ⟨z.1, Or.inl z.2⟩
/-- something was wrong in a clause -/
theorem m_rdE {h : aM} {q : Nat} {w1 w2 w3 : Option Value} (ok : OK h) (w : gi h 399 4 = nI q) (hq9 : q < 2 ^ 31) (hq : ∀ h', Ag (fun a k => a = 399 ∧ k = 3) h h' → Q (some (.int (nI q))) h') : AW d 201 213 [some (.ref 399), w1, w2, w3] [] h Q := by
  simp (disch := omega) only [s201_213, s201_214, s201_217, s201_218, s201_221, s201_222, s201_225, s201_227, s201_230, s201_231, s201_234, s201_235, s201_236, s201_237, s201_237i, s201_238, s201_241, s201_242, s201_245, s201_246, s201_249, s201_250, s201_251, s201_254, true_or, or_true, or_false, false_or, or_self, Int32.reduceLT, Int32.reduceLE, Nat.add_zero, Nat.zero_add, Nat.not_lt_zero, not_false_eq_true, not_true_eq_false, and_assoc, kl_q, kl_i, kl_r, kl_n, kl_0, kl_l, cs_0, cs_i, cs_r, cs_n, cs_l, aRf_s, aRf_n, gi_wl, gi_wr, gl_wi, gl_wl, gl_wr, gr_wi, gr_wl, gr_wr, sh_wi, sh_wl, sh_wr, gl_cp, gr_cp, sh_cp, gl_rw, gr_rw, sh_rw, gi_rl, gr_rl, sh_rl, Option.toList_some, Option.toList_none, List.nil_append, List.cons_append, List.append_nil, Option.some.injEq, Prod.mk.injEq, and_true, true_and, and_self, if_true, if_false, reduceCtorEq, Nat.reduceLeDiff, Nat.reduceLT, Nat.reduceAdd, Nat.reduceEqDiff, false_and, and_false, exists_const, exists_eq_left, exists_eq_left', exists_and_left, and_assoc, nltL, nltR, nleL, nleR, neqL, neqR, naL, naR, nmL, nmR, nI_ltI, nI_leI, nI_eq, nI_add, nI_mul, nI_clamp, n0l, n0r, nm1, nm1', nm1l, nm1r, nm1g, nsL, nI_m1, Nat.add_sub_cancel, vpn, vpL, nclL, le32, leLL, leLN, leNL, leNN, inA, nb0, nb1, gi_wi_n, gi_wi_e, gi_rw_n, gi_rw_e, aWi_rw, ifl, ifl_, ifle, ifle_, ifq, ifq_, ifnq, ifnq_, ifnl, ifnl_, ifnle, ifnle_, z399 ok, w]
  obtain ⟨h1, eh1⟩ : ∃ h1, h1 = aWi h 399 3 (gi h 399 3 + 0) := ⟨_, rfl⟩
  rw [← eh1]
  have a1 : Ag (fun a k => a = 399 ∧ k = 3) h h1 := by
    rw [eh1]
    exact (Ag.refl ok).wi ⟨rfl, rfl⟩
  have ok := a1.1
  have w' : gi h1 399 4 = nI q := by rw [a1.2 _ _ (by omega), w]
  rw [s201_49]
  simp (disch := omega) only [s201_50, s201_257, s201_258, s201_261, s201_262, s201_265, s201_266, s201_269, s201_270, s201_273, s201_274, s201_277, s201_280, s201_281, s201_284, s201_285, s201_288, true_or, or_true, or_false, false_or, or_self, Int32.reduceLT, Int32.reduceLE, Nat.add_zero, Nat.zero_add, Nat.not_lt_zero, not_false_eq_true, not_true_eq_false, and_assoc, kl_q, kl_i, kl_r, kl_n, kl_0, kl_l, cs_0, cs_i, cs_r, cs_n, cs_l, aRf_s, aRf_n, gi_wl, gi_wr, gl_wi, gl_wl, gl_wr, gr_wi, gr_wl, gr_wr, sh_wi, sh_wl, sh_wr, gl_cp, gr_cp, sh_cp, gl_rw, gr_rw, sh_rw, gi_rl, gr_rl, sh_rl, Option.toList_some, Option.toList_none, List.nil_append, List.cons_append, List.append_nil, Option.some.injEq, Prod.mk.injEq, and_true, true_and, and_self, if_true, if_false, reduceCtorEq, Nat.reduceLeDiff, Nat.reduceLT, Nat.reduceAdd, Nat.reduceEqDiff, false_and, and_false, exists_const, exists_eq_left, exists_eq_left', exists_and_left, and_assoc, nltL, nltR, nleL, nleR, neqL, neqR, naL, naR, nmL, nmR, nI_ltI, nI_leI, nI_eq, nI_add, nI_mul, nI_clamp, n0l, n0r, nm1, nm1', nm1l, nm1r, nm1g, nsL, nI_m1, Nat.add_sub_cancel, vpn, vpL, nclL, le32, leLL, leLN, leNL, leNN, inA, nb0, nb1, gi_wi_n, gi_wi_e, gi_rw_n, gi_rw_e, aWi_rw, ifl, ifl_, ifle, ifle_, ifq, ifq_, ifnq, ifnq_, ifnl, ifnl_, ifnle, ifnle_, z399 ok, w']
  exact hq h1 a1
/-- behind the last clause: something that is no further clause -/
theorem m_rdD {h : aM} {p : Nat} {w1 w2 w3 : Option Value} (tc : TpM h B T) (hp : p ≤ T) (e3 : gi h 399 3 = nI p) (e4 : gi h 399 4 = -1) (n59 : ¬ sgB B T (sk B T p) = 59) (ht : ¬ T ≤ sk B T p) (hq : ∀ h', Ag AtY h h' → Q (some (.int (nI (sk B T p)))) h') : AW (d + 2) 201 213 [some (.ref 399), w1, w2, w3] [] h Q := by
  have ok := tc.1
  have hT := tc.2.1
  have hbb := tc.2.2.2.2
  have hs := sk_le (B := B) hp
  have ss := sk_sk (B := B) hp
  have l59 := lk_sg (q := sk B T p) hbb (b := 59) (by omega) (by omega)
  rw [show nI 59 = (59 : Int32) from rfl] at l59
  have m59 : ¬ lkI B T (sk B T p) = 59 := fun q => n59 (l59.mp q)
  simp (disch := omega) only [s201_213, s201_214, s201_217, s201_218, s201_221, s201_222, true_or, or_true, or_false, false_or, or_self, Int32.reduceLT, Int32.reduceLE, Nat.add_zero, Nat.zero_add, Nat.not_lt_zero, not_false_eq_true, not_true_eq_false, and_assoc, kl_q, kl_i, kl_r, kl_n, kl_0, kl_l, cs_0, cs_i, cs_r, cs_n, cs_l, aRf_s, aRf_n, gi_wl, gi_wr, gl_wi, gl_wl, gl_wr, gr_wi, gr_wl, gr_wr, sh_wi, sh_wl, sh_wr, gl_cp, gr_cp, sh_cp, gl_rw, gr_rw, sh_rw, gi_rl, gr_rl, sh_rl, Option.toList_some, Option.toList_none, List.nil_append, List.cons_append, List.append_nil, Option.some.injEq, Prod.mk.injEq, and_true, true_and, and_self, if_true, if_false, reduceCtorEq, Nat.reduceLeDiff, Nat.reduceLT, Nat.reduceAdd, Nat.reduceEqDiff, false_and, and_false, exists_const, exists_eq_left, exists_eq_left', exists_and_left, and_assoc, nltL, nltR, nleL, nleR, neqL, neqR, naL, naR, nmL, nmR, nI_ltI, nI_leI, nI_eq, nI_add, nI_mul, nI_clamp, n0l, n0r, nm1, nm1', nm1l, nm1r, nm1g, nsL, nI_m1, Nat.add_sub_cancel, vpn, vpL, nclL, le32, leLL, leLN, leNL, leNN, inA, nb0, nb1, gi_wi_n, gi_wi_e, gi_rw_n, gi_rw_e, aWi_rw, ifl, ifl_, ifle, ifle_, ifq, ifq_, ifnq, ifnq_, ifnl, ifnl_, ifnle, ifnle_, z399 ok, e4]
  refine m_lookM tc hp e3 (fun h1 a1 f1 => ?_)
  have ok := a1.1
  have tc1 := tc.ag a1 (by omega) (by omega)
  have e41 : gi h1 399 4 = -1 := by rw [a1.2 _ _ (by omega), e4]
  simp (disch := omega) only [s201_225, s201_227, s201_230, s201_231, s201_234, s201_235, s201_236, s201_237, s201_237i, s201_238, s201_241, s201_242, s201_245, s201_246, s201_249, s201_250, s201_251, s201_254, true_or, or_true, or_false, false_or, or_self, Int32.reduceLT, Int32.reduceLE, Nat.add_zero, Nat.zero_add, Nat.not_lt_zero, not_false_eq_true, not_true_eq_false, and_assoc, kl_q, kl_i, kl_r, kl_n, kl_0, kl_l, cs_0, cs_i, cs_r, cs_n, cs_l, aRf_s, aRf_n, gi_wl, gi_wr, gl_wi, gl_wl, gl_wr, gr_wi, gr_wl, gr_wr, sh_wi, sh_wl, sh_wr, gl_cp, gr_cp, sh_cp, gl_rw, gr_rw, sh_rw, gi_rl, gr_rl, sh_rl, Option.toList_some, Option.toList_none, List.nil_append, List.cons_append, List.append_nil, Option.some.injEq, Prod.mk.injEq, and_true, true_and, and_self, if_true, if_false, reduceCtorEq, Nat.reduceLeDiff, Nat.reduceLT, Nat.reduceAdd, Nat.reduceEqDiff, false_and, and_false, exists_const, exists_eq_left, exists_eq_left', exists_and_left, and_assoc, nltL, nltR, nleL, nleR, neqL, neqR, naL, naR, nmL, nmR, nI_ltI, nI_leI, nI_eq, nI_add, nI_mul, nI_clamp, n0l, n0r, nm1, nm1', nm1l, nm1r, nm1g, nsL, nI_m1, Nat.add_sub_cancel, vpn, vpL, nclL, le32, leLL, leLN, leNL, leNN, inA, nb0, nb1, gi_wi_n, gi_wi_e, gi_rw_n, gi_rw_e, aWi_rw, ifl, ifl_, ifle, ifle_, ifq, ifq_, ifnq, ifnq_, ifnl, ifnl_, ifnle, ifnle_, z399 ok, m59, f1]
  obtain ⟨h2, eh2⟩ : ∃ h2, h2 = aWi h1 399 3 (nI (sk B T p)) := ⟨_, rfl⟩
  have eh2' : h2 = aWi h1 399 3 (nI (sk B T p + 0)) := eh2
  first | rw [← eh2] | rw [← eh2']
  have a2 : Ag (fun a k => a = 399 ∧ k = 3) h h2 := by
    rw [eh2]
    exact a1.wi ⟨rfl, rfl⟩
  have f2 : gi h2 399 3 = nI (sk B T p) := by rw [eh2, gi_wi_e]
  have ok := a2.1
  have tc2 := tc.ag a2 (by omega) (by omega)
  have e42 : gi h2 399 4 = -1 := by rw [a2.2 _ _ (by omega), e4]
  rw [s201_49]
  simp (disch := omega) only [s201_50, s201_257, s201_258, s201_261, s201_262, s201_265, s201_266, true_or, or_true, or_false, false_or, or_self, Int32.reduceLT, Int32.reduceLE, Nat.add_zero, Nat.zero_add, Nat.not_lt_zero, not_false_eq_true, not_true_eq_false, and_assoc, kl_q, kl_i, kl_r, kl_n, kl_0, kl_l, cs_0, cs_i, cs_r, cs_n, cs_l, aRf_s, aRf_n, gi_wl, gi_wr, gl_wi, gl_wl, gl_wr, gr_wi, gr_wl, gr_wr, sh_wi, sh_wl, sh_wr, gl_cp, gr_cp, sh_cp, gl_rw, gr_rw, sh_rw, gi_rl, gr_rl, sh_rl, Option.toList_some, Option.toList_none, List.nil_append, List.cons_append, List.append_nil, Option.some.injEq, Prod.mk.injEq, and_true, true_and, and_self, if_true, if_false, reduceCtorEq, Nat.reduceLeDiff, Nat.reduceLT, Nat.reduceAdd, Nat.reduceEqDiff, false_and, and_false, exists_const, exists_eq_left, exists_eq_left', exists_and_left, and_assoc, nltL, nltR, nleL, nleR, neqL, neqR, naL, naR, nmL, nmR, nI_ltI, nI_leI, nI_eq, nI_add, nI_mul, nI_clamp, n0l, n0r, nm1, nm1', nm1l, nm1r, nm1g, nsL, nI_m1, Nat.add_sub_cancel, vpn, vpL, nclL, le32, leLL, leLN, leNL, leNN, inA, nb0, nb1, gi_wi_n, gi_wi_e, gi_rw_n, gi_rw_e, aWi_rw, ifl, ifl_, ifle, ifle_, ifq, ifq_, ifnq, ifnq_, ifnl, ifnl_, ifnle, ifnle_, z399 ok, e42]
  refine m_lookM tc2 hs.2 f2 (fun h3 a3 f3 => ?_)
  rw [ss] at f3 ⊢
  have ok := a3.1
  have e43 : gi h3 399 4 = -1 := by rw [a3.2 _ _ (by omega), e42]
  have e1 : lkI B T (sk B T p) = nI (B (sk B T p)) := if_pos (by omega)
  have b256 := hbb (sk B T p) (by omega)
  have e2 : ¬ lkI B T (sk B T p) = -1 := by
    rw [e1]
    exact fun z => (nm1 (by omega)).mp z
  simp (disch := omega) only [s201_269, s201_270, s201_273, s201_274, s201_277, s201_280, s201_281, s201_284, s201_285, s201_288, true_or, or_true, or_false, false_or, or_self, Int32.reduceLT, Int32.reduceLE, Nat.add_zero, Nat.zero_add, Nat.not_lt_zero, not_false_eq_true, not_true_eq_false, and_assoc, kl_q, kl_i, kl_r, kl_n, kl_0, kl_l, cs_0, cs_i, cs_r, cs_n, cs_l, aRf_s, aRf_n, gi_wl, gi_wr, gl_wi, gl_wl, gl_wr, gr_wi, gr_wl, gr_wr, sh_wi, sh_wl, sh_wr, gl_cp, gr_cp, sh_cp, gl_rw, gr_rw, sh_rw, gi_rl, gr_rl, sh_rl, Option.toList_some, Option.toList_none, List.nil_append, List.cons_append, List.append_nil, Option.some.injEq, Prod.mk.injEq, and_true, true_and, and_self, if_true, if_false, reduceCtorEq, Nat.reduceLeDiff, Nat.reduceLT, Nat.reduceAdd, Nat.reduceEqDiff, false_and, and_false, exists_const, exists_eq_left, exists_eq_left', exists_and_left, and_assoc, nltL, nltR, nleL, nleR, neqL, neqR, naL, naR, nmL, nmR, nI_ltI, nI_leI, nI_eq, nI_add, nI_mul, nI_clamp, n0l, n0r, nm1, nm1', nm1l, nm1r, nm1g, nsL, nI_m1, Nat.add_sub_cancel, vpn, vpL, nclL, le32, leLL, leLN, leNL, leNN, inA, nb0, nb1, gi_wi_n, gi_wi_e, gi_rw_n, gi_rw_e, aWi_rw, ifl, ifl_, ifle, ifle_, ifq, ifq_, ifnq, ifnq_, ifnl, ifnl_, ifnle, ifnle_, z399 ok, e2, m_bad ok f3 e43]
  exact hq _ (((a2.trans a3).mono (fun a k z => ⟨z.1, Or.inl z.2⟩)).wi ⟨rfl, Or.inr rfl⟩)
theorem itG_dup {κ : Nat} {p' q k : Nat} (hb : ∀ i, i < T → B i < 256) (hk : ltK κ (sgB B T q) = some k) : q < T ∧ sk B T q = q ∧ ¬ sgB B T q = 59 := by
  obtain ⟨-, h0⟩ := ltK_lt hk
  have hq : q < T := by
    unfold sgB at h0
    split at h0
    · assumption
    · omega
  have e : sgB B T q = B q := if_pos hq
  refine ⟨hq, sk_i (fun z => ?_), fun z => ?_⟩
  · rw [e, z.2] at hk
    unfold ltK at hk
    repeat' split at hk
    all_goals first
      | (cases hk; done)
      | omega
  · rw [z] at hk
    unfold ltK at hk
    repeat' split at hk
    all_goals first
      | (cases hk; done)
      | omega
end D6
