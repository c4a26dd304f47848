-- deps: 9b.rid6
section D7
variable {B : Nat → Nat} {T : Nat} {d : Nat} {Q : Option Value → aM → Prop} {r : Nat ⊕ RS}
theorem iy_rm {A fr κ a k : Nat} (hA : 410 ≤ A ∧ A ≤ 412) (z : IY A fr κ a k) : RM a k := by
  unfold IY at z
  unfold RM
  rcases z with z | z
  · exact Or.inl z
  · exact Or.inr (Or.inr (by omega))
theorem m_rideGo : ∀ (f p : Nat) (s : RS) (h : aM) (z : Option Value), rdG B T f p s = some r → p ≤ T → RsOk s → RcM h B T p s → (∀ h', Ag RM h h' → PostF B T Q r h') → AW (d + 5) 201 49 [some (.ref 399), some (.int (bI s.1)), some (.int 1), z] [] h Q := by
  intro f
  induction f with
  | zero =>
    intro p s h z hr
    unfold rdG at hr
    cases hr
  | succ f ih =>
    intro p s h z hr hp so rc hq
    unfold rdG at hr
    have hT := rc.1.2.1
    have hbb := rc.1.2.2.2.2
    have ok := rc.1.1
    have w0 := rc.2.2.1
    have hs := sk_le (B := B) hp
    have aft : ∀ p1 s1 h2 w3, (if T ≤ sk B T p1 then enG T s1 else if sgB B T (sk B T p1) = 59 then rdG B T f (sk B T p1 + 1) s1 else some (.inl (sk B T p1))) = some r → p1 ≤ T → RsOk s1 → RcM h2 B T p1 s1 → Ag RM h h2 → AW (d + 5) 201 213 [some (.ref 399), some (.int (bI s1.1)), some (.int 1), w3] [] h2 Q := by
      intro p1 s1 h2 w3 hr hp1 so1 rc2 b2
      have hs1 := sk_le (B := B) hp1
      have ss := sk_sk (B := B) hp1
      have ok := rc2.1.1
      have w2 := rc2.2.2.1
      have l59 := lk_sg (q := sk B T p1) hbb (b := 59) (by omega) (by omega)
      rw [show nI 59 = (59 : Int32) from rfl] at l59
      by_cases ht : T ≤ sk B T p1
      · rw [if_pos ht] at hr
        have e1 : lkI B T (sk B T p1) = -1 := if_neg (by omega)
        have m59 : ¬ lkI B T (sk B T p1) = 59 := by
          rw [e1]
          decide
        simp (disch := omega) only [s201_213, s201_214, s201_217, s201_218, s201_221, s201_222, true_or, or_true, or_false, false_or, or_self, Int32.reduceLT, Int32.reduceLE, Nat.add_zero, Nat.zero_add, Nat.not_lt_zero, not_false_eq_true, not_true_eq_false, and_assoc, kl_q, kl_i, kl_r, kl_n, kl_0, kl_l, cs_0, cs_i, cs_r, cs_n, cs_l, aRf_s, aRf_n, gi_wl, gi_wr, gl_wi, gl_wl, gl_wr, gr_wi, gr_wl, gr_wr, sh_wi, sh_wl, sh_wr, gl_cp, gr_cp, sh_cp, gl_rw, gr_rw, sh_rw, gi_rl, gr_rl, sh_rl, Option.toList_some, Option.toList_none, List.nil_append, List.cons_append, List.append_nil, Option.some.injEq, Prod.mk.injEq, and_true, true_and, and_self, if_true, if_false, reduceCtorEq, Nat.reduceLeDiff, Nat.reduceLT, Nat.reduceAdd, Nat.reduceEqDiff, false_and, and_false, exists_const, exists_eq_left, exists_eq_left', exists_and_left, and_assoc, nltL, nltR, nleL, nleR, neqL, neqR, naL, naR, nmL, nmR, nI_ltI, nI_leI, nI_eq, nI_add, nI_mul, nI_clamp, n0l, n0r, nm1, nm1', nm1l, nm1r, nm1g, nsL, nI_m1, Nat.add_sub_cancel, vpn, vpL, nclL, le32, leLL, leLN, leNL, leNN, inA, nb0, nb1, gi_wi_n, gi_wi_e, gi_rw_n, gi_rw_e, aWi_rw, ifl, ifl_, ifle, ifle_, ifq, ifq_, ifnq, ifnq_, ifnl, ifnl_, ifnle, ifnle_, z399 ok, w2]
        refine m_lookM rc2.1 hp1 rc2.2.1 (fun h3 a3 f3 => ?_)
        have rc3 := rc2.at a3 f3
        have ok := rc3.1.1
        simp (disch := omega) only [s201_225, s201_227, s201_230, s201_231, s201_234, s201_235, s201_236, s201_237, s201_237i, s201_238, s201_241, s201_242, s201_245, s201_246, s201_249, s201_250, s201_251, s201_254, true_or, or_true, or_false, false_or, or_self, Int32.reduceLT, Int32.reduceLE, Nat.add_zero, Nat.zero_add, Nat.not_lt_zero, not_false_eq_true, not_true_eq_false, and_assoc, kl_q, kl_i, kl_r, kl_n, kl_0, kl_l, cs_0, cs_i, cs_r, cs_n, cs_l, aRf_s, aRf_n, gi_wl, gi_wr, gl_wi, gl_wl, gl_wr, gr_wi, gr_wl, gr_wr, sh_wi, sh_wl, sh_wr, gl_cp, gr_cp, sh_cp, gl_rw, gr_rw, sh_rw, gi_rl, gr_rl, sh_rl, Option.toList_some, Option.toList_none, List.nil_append, List.cons_append, List.append_nil, Option.some.injEq, Prod.mk.injEq, and_true, true_and, and_self, if_true, if_false, reduceCtorEq, Nat.reduceLeDiff, Nat.reduceLT, Nat.reduceAdd, Nat.reduceEqDiff, false_and, and_false, exists_const, exists_eq_left, exists_eq_left', exists_and_left, and_assoc, nltL, nltR, nleL, nleR, neqL, neqR, naL, naR, nmL, nmR, nI_ltI, nI_leI, nI_eq, nI_add, nI_mul, nI_clamp, n0l, n0r, nm1, nm1', nm1l, nm1r, nm1g, nsL, nI_m1, Nat.add_sub_cancel, vpn, vpL, nclL, le32, leLL, leLN, leNL, leNN, inA, nb0, nb1, gi_wi_n, gi_wi_e, gi_rw_n, gi_rw_e, aWi_rw, ifl, ifl_, ifle, ifle_, ifq, ifq_, ifnq, ifnq_, ifnl, ifnl_, ifnle, ifnle_, z399 ok, m59, f3]
        obtain ⟨h4, eh4⟩ : ∃ h4, h4 = aWi h3 399 3 (nI (sk B T p1)) := ⟨_, rfl⟩
        have eh4' : h4 = aWi h3 399 3 (nI (sk B T p1 + 0)) := eh4
        first | rw [← eh4] | rw [← eh4']
        have a4 : Ag (fun a k => a = 399 ∧ k = 3) h3 h4 := by
          rw [eh4]
          exact (Ag.refl ok).wi ⟨rfl, rfl⟩
        have rc4 := rc3.at a4 (by rw [eh4, gi_wi_e] : gi h4 399 3 = nI (sk B T p1))
        have ok := rc4.1.1
        have w4 := rc4.2.2.1
        rw [s201_49]
        simp (disch := omega) only [s201_50, s201_257, s201_258, s201_261, s201_262, s201_265, s201_266, true_or, or_true, or_false, false_or, or_self, Int32.reduceLT, Int32.reduceLE, Nat.add_zero, Nat.zero_add, Nat.not_lt_zero, not_false_eq_true, not_true_eq_false, and_assoc, kl_q, kl_i, kl_r, kl_n, kl_0, kl_l, cs_0, cs_i, cs_r, cs_n, cs_l, aRf_s, aRf_n, gi_wl, gi_wr, gl_wi, gl_wl, gl_wr, gr_wi, gr_wl, gr_wr, sh_wi, sh_wl, sh_wr, gl_cp, gr_cp, sh_cp, gl_rw, gr_rw, sh_rw, gi_rl, gr_rl, sh_rl, Option.toList_some, Option.toList_none, List.nil_append, List.cons_append, List.append_nil, Option.some.injEq, Prod.mk.injEq, and_true, true_and, and_self, if_true, if_false, reduceCtorEq, Nat.reduceLeDiff, Nat.reduceLT, Nat.reduceAdd, Nat.reduceEqDiff, false_and, and_false, exists_const, exists_eq_left, exists_eq_left', exists_and_left, and_assoc, nltL, nltR, nleL, nleR, neqL, neqR, naL, naR, nmL, nmR, nI_ltI, nI_leI, nI_eq, nI_add, nI_mul, nI_clamp, n0l, n0r, nm1, nm1', nm1l, nm1r, nm1g, nsL, nI_m1, Nat.add_sub_cancel, vpn, vpL, nclL, le32, leLL, leLN, leNL, leNN, inA, nb0, nb1, gi_wi_n, gi_wi_e, gi_rw_n, gi_rw_e, aWi_rw, ifl, ifl_, ifle, ifle_, ifq, ifq_, ifnq, ifnq_, ifnl, ifnl_, ifnle, ifnle_, z399 ok, w4]
        refine m_lookM rc4.1 hs1.2 rc4.2.1 (fun h5 a5 f5 => ?_)
        rw [ss] at f5 ⊢
        have rc5 := rc4.at a5 f5
        have ok := rc5.1.1
        have w5 := rc5.2.2.1
        have b5 : Ag RM h h5 := ((b2.trans (a3.mono (fun a k z => m3_rm z))).trans (a4.mono (fun a k z => m3_rm z))).trans (a5.mono (fun a k z => m3_rm z))
        simp (disch := omega) only [s201_269, s201_270, s201_273, s201_274, true_or, or_true, or_false, false_or, or_self, Int32.reduceLT, Int32.reduceLE, Nat.add_zero, Nat.zero_add, Nat.not_lt_zero, not_false_eq_true, not_true_eq_false, and_assoc, kl_q, kl_i, kl_r, kl_n, kl_0, kl_l, cs_0, cs_i, cs_r, cs_n, cs_l, aRf_s, aRf_n, gi_wl, gi_wr, gl_wi, gl_wl, gl_wr, gr_wi, gr_wl, gr_wr, sh_wi, sh_wl, sh_wr, gl_cp, gr_cp, sh_cp, gl_rw, gr_rw, sh_rw, gi_rl, gr_rl, sh_rl, Option.toList_some, Option.toList_none, List.nil_append, List.cons_append, List.append_nil, Option.some.injEq, Prod.mk.injEq, and_true, true_and, and_self, if_true, if_false, reduceCtorEq, Nat.reduceLeDiff, Nat.reduceLT, Nat.reduceAdd, Nat.reduceEqDiff, false_and, and_false, exists_const, exists_eq_left, exists_eq_left', exists_and_left, and_assoc, nltL, nltR, nleL, nleR, neqL, neqR, naL, naR, nmL, nmR, nI_ltI, nI_leI, nI_eq, nI_add, nI_mul, nI_clamp, n0l, n0r, nm1, nm1', nm1l, nm1r, nm1g, nsL, nI_m1, Nat.add_sub_cancel, vpn, vpL, nclL, le32, leLL, leLN, leNL, leNN, inA, nb0, nb1, gi_wi_n, gi_wi_e, gi_rw_n, gi_rw_e, aWi_rw, ifl, ifl_, ifle, ifle_, ifq, ifq_, ifnq, ifnq_, ifnl, ifnl_, ifnle, ifnle_, z399 ok, e1]
        refine m_isWhole rc5 so1 (fun hw => ?_) (fun hw => ?_)
        · rw [enG_t hw] at hr
          cases hr
          simp (disch := omega) only [s201_274, s201_277, s201_280, s201_281, s201_284, s201_285, s201_288, true_or, or_true, or_false, false_or, or_self, Int32.reduceLT, Int32.reduceLE, Nat.add_zero, Nat.zero_add, Nat.not_lt_zero, not_false_eq_true, not_true_eq_false, and_assoc, kl_q, kl_i, kl_r, kl_n, kl_0, kl_l, cs_0, cs_i, cs_r, cs_n, cs_l, aRf_s, aRf_n, gi_wl, gi_wr, gl_wi, gl_wl, gl_wr, gr_wi, gr_wl, gr_wr, sh_wi, sh_wl, sh_wr, gl_cp, gr_cp, sh_cp, gl_rw, gr_rw, sh_rw, gi_rl, gr_rl, sh_rl, Option.toList_some, Option.toList_none, List.nil_append, List.cons_append, List.append_nil, Option.some.injEq, Prod.mk.injEq, and_true, true_and, and_self, if_true, if_false, reduceCtorEq, Nat.reduceLeDiff, Nat.reduceLT, Nat.reduceAdd, Nat.reduceEqDiff, false_and, and_false, exists_const, exists_eq_left, exists_eq_left', exists_and_left, and_assoc, nltL, nltR, nleL, nleR, neqL, neqR, naL, naR, nmL, nmR, nI_ltI, nI_leI, nI_eq, nI_add, nI_mul, nI_clamp, n0l, n0r, nm1, nm1', nm1l, nm1r, nm1g, nsL, nI_m1, Nat.add_sub_cancel, vpn, vpL, nclL, le32, leLL, leLN, leNL, leNN, inA, nb0, nb1, gi_wi_n, gi_wi_e, gi_rw_n, gi_rw_e, aWi_rw, ifl, ifl_, ifle, ifle_, ifq, ifq_, ifnq, ifnq_, ifnl, ifnl_, ifnle, ifnle_, z399 ok, w5]
          exact hq h5 b5 ⟨_, rc5⟩ so1 hw
        · rw [enG_f hw] at hr
          cases hr
          have eT : sk B T p1 = T := by omega
          simp (disch := omega) only [s201_274, s201_277, s201_280, s201_281, s201_284, s201_285, s201_288, true_or, or_true, or_false, false_or, or_self, Int32.reduceLT, Int32.reduceLE, Nat.add_zero, Nat.zero_add, Nat.not_lt_zero, not_false_eq_true, not_true_eq_false, and_assoc, kl_q, kl_i, kl_r, kl_n, kl_0, kl_l, cs_0, cs_i, cs_r, cs_n, cs_l, aRf_s, aRf_n, gi_wl, gi_wr, gl_wi, gl_wl, gl_wr, gr_wi, gr_wl, gr_wr, sh_wi, sh_wl, sh_wr, gl_cp, gr_cp, sh_cp, gl_rw, gr_rw, sh_rw, gi_rl, gr_rl, sh_rl, Option.toList_some, Option.toList_none, List.nil_append, List.cons_append, List.append_nil, Option.some.injEq, Prod.mk.injEq, and_true, true_and, and_self, if_true, if_false, reduceCtorEq, Nat.reduceLeDiff, Nat.reduceLT, Nat.reduceAdd, Nat.reduceEqDiff, false_and, and_false, exists_const, exists_eq_left, exists_eq_left', exists_and_left, and_assoc, nltL, nltR, nleL, nleR, neqL, neqR, naL, naR, nmL, nmR, nI_ltI, nI_leI, nI_eq, nI_add, nI_mul, nI_clamp, n0l, n0r, nm1, nm1', nm1l, nm1r, nm1g, nsL, nI_m1, Nat.add_sub_cancel, vpn, vpL, nclL, le32, leLL, leLN, leNL, leNN, inA, nb0, nb1, gi_wi_n, gi_wi_e, gi_rw_n, gi_rw_e, aWi_rw, ifl, ifl_, ifle, ifle_, ifq, ifq_, ifnq, ifnq_, ifnl, ifnl_, ifnle, ifnle_, z399 ok, m_bad ok f5 w5]
          have t := hq _ (b5.trans ((Ag.refl ok).wi (x := nI (sk B T p1)) (a := 399) (k := 4) (Or.inl ⟨rfl, Or.inr rfl⟩)))
          rw [eT] at t ⊢
          exact t
      · rw [if_neg ht] at hr
        by_cases b59 : sgB B T (sk B T p1) = 59
        · rw [if_pos b59] at hr
          have f59 := l59.mpr b59
          have hq1 := sg_lt (by omega) b59
          simp (disch := omega) only [s201_213, s201_214, s201_217, s201_218, s201_221, s201_222, true_or, or_true, or_false, false_or, or_self, Int32.reduceLT, Int32.reduceLE, Nat.add_zero, Nat.zero_add, Nat.not_lt_zero, not_false_eq_true, not_true_eq_false, and_assoc, kl_q, kl_i, kl_r, kl_n, kl_0, kl_l, cs_0, cs_i, cs_r, cs_n, cs_l, aRf_s, aRf_n, gi_wl, gi_wr, gl_wi, gl_wl, gl_wr, gr_wi, gr_wl, gr_wr, sh_wi, sh_wl, sh_wr, gl_cp, gr_cp, sh_cp, gl_rw, gr_rw, sh_rw, gi_rl, gr_rl, sh_rl, Option.toList_some, Option.toList_none, List.nil_append, List.cons_append, List.append_nil, Option.some.injEq, Prod.mk.injEq, and_true, true_and, and_self, if_true, if_false, reduceCtorEq, Nat.reduceLeDiff, Nat.reduceLT, Nat.reduceAdd, Nat.reduceEqDiff, false_and, and_false, exists_const, exists_eq_left, exists_eq_left', exists_and_left, and_assoc, nltL, nltR, nleL, nleR, neqL, neqR, naL, naR, nmL, nmR, nI_ltI, nI_leI, nI_eq, nI_add, nI_mul, nI_clamp, n0l, n0r, nm1, nm1', nm1l, nm1r, nm1g, nsL, nI_m1, Nat.add_sub_cancel, vpn, vpL, nclL, le32, leLL, leLN, leNL, leNN, inA, nb0, nb1, gi_wi_n, gi_wi_e, gi_rw_n, gi_rw_e, aWi_rw, ifl, ifl_, ifle, ifle_, ifq, ifq_, ifnq, ifnq_, ifnl, ifnl_, ifnle, ifnle_, z399 ok, w2]
          refine m_lookM rc2.1 hp1 rc2.2.1 (fun h3 a3 f3 => ?_)
          have rc3 := rc2.at a3 f3
          have ok := rc3.1.1
          simp (disch := omega) only [s201_225, s201_227, s201_230, s201_231, s201_234, s201_235, s201_236, s201_237, s201_237i, s201_238, s201_241, s201_242, s201_245, s201_246, s201_249, s201_250, s201_251, s201_254, true_or, or_true, or_false, false_or, or_self, Int32.reduceLT, Int32.reduceLE, Nat.add_zero, Nat.zero_add, Nat.not_lt_zero, not_false_eq_true, not_true_eq_false, and_assoc, kl_q, kl_i, kl_r, kl_n, kl_0, kl_l, cs_0, cs_i, cs_r, cs_n, cs_l, aRf_s, aRf_n, gi_wl, gi_wr, gl_wi, gl_wl, gl_wr, gr_wi, gr_wl, gr_wr, sh_wi, sh_wl, sh_wr, gl_cp, gr_cp, sh_cp, gl_rw, gr_rw, sh_rw, gi_rl, gr_rl, sh_rl, Option.toList_some, Option.toList_none, List.nil_append, List.cons_append, List.append_nil, Option.some.injEq, Prod.mk.injEq, and_true, true_and, and_self, if_true, if_false, reduceCtorEq, Nat.reduceLeDiff, Nat.reduceLT, Nat.reduceAdd, Nat.reduceEqDiff, false_and, and_false, exists_const, exists_eq_left, exists_eq_left', exists_and_left, and_assoc, nltL, nltR, nleL, nleR, neqL, neqR, naL, naR, nmL, nmR, nI_ltI, nI_leI, nI_eq, nI_add, nI_mul, nI_clamp, n0l, n0r, nm1, nm1', nm1l, nm1r, nm1g, nsL, nI_m1, Nat.add_sub_cancel, vpn, vpL, nclL, le32, leLL, leLN, leNL, leNN, inA, nb0, nb1, gi_wi_n, gi_wi_e, gi_rw_n, gi_rw_e, aWi_rw, ifl, ifl_, ifle, ifle_, ifq, ifq_, ifnq, ifnq_, ifnl, ifnl_, ifnle, ifnle_, z399 ok, f59, f3]
          exact ih (sk B T p1 + 1) s1 _ _ hr (by omega) so1 (rc3.at ((Ag.refl ok).wi ⟨rfl, rfl⟩) gi_wi_e) (fun h4 a4 => hq h4 (((b2.trans (a3.mono (fun a k z => m3_rm z))).trans ((Ag.refl ok).wi (m3_rm ⟨rfl, rfl⟩))).trans a4))
        · rw [if_neg b59] at hr
          cases hr
          exact m_rdD rc2.1 hp1 rc2.2.1 w2 b59 ht (fun h3 a3 => hq h3 (b2.trans (a3.mono (fun a k z => Or.inl z))))
    rw [s201_49]
    simp (disch := omega) only [s201_50, s201_53, s201_54, s201_57, s201_58, s201_61, s201_62, true_or, or_true, or_false, false_or, or_self, Int32.reduceLT, Int32.reduceLE, Nat.add_zero, Nat.zero_add, Nat.not_lt_zero, not_false_eq_true, not_true_eq_false, and_assoc, kl_q, kl_i, kl_r, kl_n, kl_0, kl_l, cs_0, cs_i, cs_r, cs_n, cs_l, aRf_s, aRf_n, gi_wl, gi_wr, gl_wi, gl_wl, gl_wr, gr_wi, gr_wl, gr_wr, sh_wi, sh_wl, sh_wr, gl_cp, gr_cp, sh_cp, gl_rw, gr_rw, sh_rw, gi_rl, gr_rl, sh_rl, Option.toList_some, Option.toList_none, List.nil_append, List.cons_append, List.append_nil, Option.some.injEq, Prod.mk.injEq, and_true, true_and, and_self, if_true, if_false, reduceCtorEq, Nat.reduceLeDiff, Nat.reduceLT, Nat.reduceAdd, Nat.reduceEqDiff, false_and, and_false, exists_const, exists_eq_left, exists_eq_left', exists_and_left, and_assoc, nltL, nltR, nleL, nleR, neqL, neqR, naL, naR, nmL, nmR, nI_ltI, nI_leI, nI_eq, nI_add, nI_mul, nI_clamp, n0l, n0r, nm1, nm1', nm1l, nm1r, nm1g, nsL, nI_m1, Nat.add_sub_cancel, vpn, vpL, nclL, le32, leLL, leLN, leNL, leNN, inA, nb0, nb1, gi_wi_n, gi_wi_e, gi_rw_n, gi_rw_e, aWi_rw, ifl, ifl_, ifle, ifle_, ifq, ifq_, ifnq, ifnq_, ifnl, ifnl_, ifnle, ifnle_, z399 ok, w0]
    refine m_lookM rc.1 hp rc.2.1 (fun h1 a1 f1 => ?_)
    have rc1 := rc.at a1 f1
    have b1 : Ag RM h h1 := a1.mono (fun a k z => m3_rm z)
    have ok := rc1.1.1
    have w1 := rc1.2.2.1
    obtain ⟨r1, r2, r3, r4, r5, r6, r7, r8⟩ := id rc1
    obtain ⟨o1, o2, o3, o4, o5, o6⟩ := id so
    have l115 := lk_sg (q := sk B T p) hbb (b := 115) (by omega) (by omega)
    rw [show nI 115 = (115 : Int32) from rfl] at l115
    have l100 := lk_sg (q := sk B T p) hbb (b := 100) (by omega) (by omega)
    rw [show nI 100 = (100 : Int32) from rfl] at l100
    have l102 := lk_sg (q := sk B T p) hbb (b := 102) (by omega) (by omega)
    rw [show nI 102 = (102 : Int32) from rfl] at l102
    have err : ∀ q h3 κ w2 w3 w4, q ≤ T → r = .inl q → Ag RM h h3 → OK h3 → (gi h3 399 4 = nI q ∨ (TpM h3 B T ∧ gi h3 399 4 = -1 ∧ gi h3 399 3 = nI q ∧ ∃ k, ltK κ (sgB B T q) = some k)) → AW (d + 5) 201 213 [some (.ref 399), w2, w3, w4] [] h3 Q := by
      intro q h3 κ w2 w3 w4 hqT er b3 ok3 hc
      rw [er] at hq
      rcases hc with hc | ⟨tc3, e43, e33, k, hk⟩
      · exact m_rdE ok3 hc (by omega) (fun h4 a4 => hq h4 (b3.trans (a4.mono (fun a k z => m3_rm z))))
      · obtain ⟨d1, d2, d3⟩ := itG_dup (p' := 0) hbb hk
        refine m_rdD tc3 (by omega) e33 e43 (by rw [d2]; exact d3) (by rw [d2]; omega) (fun h4 a4 => ?_)
        rw [d2]
        exact hq h4 (b3.trans (a4.mono (fun a k z => Or.inl z)))
    have rcK : ∀ q, rcG B T p s = some (.inl q) → q ≤ T := fun q e => rcG_er e hp
    have rcO : ∀ p1 s1, rcG B T p s = some (.inr (p1, s1)) → RsOk s1 ∧ p < p1 ∧ p1 ≤ T := fun p1 s1 e => rcG_ok so e hp
    unfold rcG at hr rcK rcO
    by_cases c1 : sgB B T (sk B T p) = 115 ∧ s.1 = false
    · rw [if_pos c1] at hr rcK rcO
      have hpT := sg_lt (by omega) c1.1
      have f115 := l115.mpr c1.1
      simp (disch := omega) only [s201_65, s201_66, s201_67, s201_69, s201_72, s201_73, s201_76, s201_77, s201_78, s201_79, s201_79i, s201_80, s201_83, s201_84, s201_85, s201_88, s201_89, s201_90, s201_91, s201_94, s201_95, s201_96, true_or, or_true, or_false, false_or, or_self, Int32.reduceLT, Int32.reduceLE, Nat.add_zero, Nat.zero_add, Nat.not_lt_zero, not_false_eq_true, not_true_eq_false, and_assoc, kl_q, kl_i, kl_r, kl_n, kl_0, kl_l, cs_0, cs_i, cs_r, cs_n, cs_l, aRf_s, aRf_n, gi_wl, gi_wr, gl_wi, gl_wl, gl_wr, gr_wi, gr_wl, gr_wr, sh_wi, sh_wl, sh_wr, gl_cp, gr_cp, sh_cp, gl_rw, gr_rw, sh_rw, gi_rl, gr_rl, sh_rl, Option.toList_some, Option.toList_none, List.nil_append, List.cons_append, List.append_nil, Option.some.injEq, Prod.mk.injEq, and_true, true_and, and_self, if_true, if_false, reduceCtorEq, Nat.reduceLeDiff, Nat.reduceLT, Nat.reduceAdd, Nat.reduceEqDiff, false_and, and_false, exists_const, exists_eq_left, exists_eq_left', exists_and_left, and_assoc, nltL, nltR, nleL, nleR, neqL, neqR, naL, naR, nmL, nmR, nI_ltI, nI_leI, nI_eq, nI_add, nI_mul, nI_clamp, n0l, n0r, nm1, nm1', nm1l, nm1r, nm1g, nsL, nI_m1, Nat.add_sub_cancel, vpn, vpL, nclL, le32, leLL, leLN, leNL, leNN, inA, nb0, nb1, gi_wi_n, gi_wi_e, gi_rw_n, gi_rw_e, aWi_rw, ifl, ifl_, ifle, ifle_, ifq, ifq_, ifnq, ifnq_, ifnl, ifnl_, ifnle, ifnle_, z399 ok, r399_17 ok, f115, f1, c1.2, bI_f]
      obtain ⟨h2, eh2⟩ : ∃ h2, h2 = aWi h1 399 3 (nI (sk B T p + 1)) := ⟨_, rfl⟩
      rw [← eh2]
      have a2 : Ag (fun a k => a = 399 ∧ k = 3) h1 h2 := by
        rw [eh2]
        exact (Ag.refl ok).wi ⟨rfl, rfl⟩
      have rc2 := rc1.at a2 (by rw [eh2, gi_wi_e] : gi h2 399 3 = nI (sk B T p + 1))
      have b2 : Ag RM h h2 := b1.trans (a2.mono (fun a k z => m3_rm z))
      cases hi : itG B T 0 (mK 0 + 1) (sk B T p + 1) 0 (usK 0) with
      | none =>
        rw [hi] at hr
        cases hr
      | some ri =>
        rw [hi] at hr rcK rcO
        refine m_items (κ := 0) (A := 410) (fr := 0) (sz := 5) (d := d + 1) (by omega) (by omega) (fun h ok => z410 ok) (by decide) (by omega) rc2.1 (by omega) rc2.2.1 rc2.2.2.1 hi (fun h3 a3 p3 => ?_)
        have b3 : Ag RM h h3 := b2.trans (a3.mono (fun a k z => iy_rm (by omega) z))
        have t3 : ∀ a k, ¬ (a = 399 ∧ (k = 3 ∨ k = 4)) → ¬ a = 410 → gi h3 a k = gi h2 a k := fun a k z1 z2 => a3.2 _ _ (by unfold IY AtY; omega)
        simp (disch := omega) only [s201_96, s201_99, true_or, or_true, or_false, false_or, or_self, Int32.reduceLT, Int32.reduceLE, Nat.add_zero, Nat.zero_add, Nat.not_lt_zero, not_false_eq_true, not_true_eq_false, and_assoc, kl_q, kl_i, kl_r, kl_n, kl_0, kl_l, cs_0, cs_i, cs_r, cs_n, cs_l, aRf_s, aRf_n, gi_wl, gi_wr, gl_wi, gl_wl, gl_wr, gr_wi, gr_wl, gr_wr, sh_wi, sh_wl, sh_wr, gl_cp, gr_cp, sh_cp, gl_rw, gr_rw, sh_rw, gi_rl, gr_rl, sh_rl, Option.toList_some, Option.toList_none, List.nil_append, List.cons_append, List.append_nil, Option.some.injEq, Prod.mk.injEq, and_true, true_and, and_self, if_true, if_false, reduceCtorEq, Nat.reduceLeDiff, Nat.reduceLT, Nat.reduceAdd, Nat.reduceEqDiff, false_and, and_false, exists_const, exists_eq_left, exists_eq_left', exists_and_left, and_assoc]
        cases ri with
        | inl q =>
          cases hr
          exact err q h3 0 _ _ _ (rcK q rfl) rfl b3 p3.1 p3.2
        | inr x =>
          obtain ⟨p', row⟩ := x
          simp only at hr
          obtain ⟨k1, k2, k3⟩ := rcO _ _ rfl
          obtain ⟨q1, q2, q3, q4⟩ := p3
          obtain ⟨-, -, -, s4, s5, s6, s7, s8⟩ := rc2
          refine aft p' _ h3 _ hr k3 k1 ⟨q1, q2, q3, ?_, ?_, fun k hk => ?_, fun i hi k hk => ?_, fun i hi k hk => ?_⟩ b3
          · rw [t3 _ _ (by omega) (by omega), s4]
          · rw [t3 _ _ (by omega) (by omega), s5]
          · have := q4 k hk
            rw [Nat.zero_add] at this
            exact this
          · rw [t3 _ _ (by omega) (by omega)]
            exact s7 i hi k hk
          · rw [t3 _ _ (by omega) (by omega)]
            exact s8 i hi k hk
    · rw [if_neg c1] at hr rcK rcO
      have go102 : AW (d + 5) 201 102 [some (.ref 399), some (.int (bI s.1)), some (.int 1), some (.int (lkI B T (sk B T p)))] [] h1 Q := by
        by_cases c2 : sgB B T (sk B T p) = 100 ∧ s.2.2.1.length < 6
        · rw [if_pos c2] at hr rcK rcO
          have hpT := sg_lt (by omega) c2.1
          have f100 := l100.mpr c2.1
          have n6 : ¬ 6 ≤ s.2.2.1.length := by omega
          simp (disch := omega) only [s201_102, s201_103, s201_105, s201_108, s201_109, s201_112, s201_114, s201_117, s201_118, s201_118i, s201_119, s201_122, s201_123, s201_124, s201_127, s201_128, s201_129, s201_130, s201_133, s201_134, s201_135, s201_138, s201_139, s201_140, true_or, or_true, or_false, false_or, or_self, Int32.reduceLT, Int32.reduceLE, Nat.add_zero, Nat.zero_add, Nat.not_lt_zero, not_false_eq_true, not_true_eq_false, and_assoc, kl_q, kl_i, kl_r, kl_n, kl_0, kl_l, cs_0, cs_i, cs_r, cs_n, cs_l, aRf_s, aRf_n, gi_wl, gi_wr, gl_wi, gl_wl, gl_wr, gr_wi, gr_wl, gr_wr, sh_wi, sh_wl, sh_wr, gl_cp, gr_cp, sh_cp, gl_rw, gr_rw, sh_rw, gi_rl, gr_rl, sh_rl, Option.toList_some, Option.toList_none, List.nil_append, List.cons_append, List.append_nil, Option.some.injEq, Prod.mk.injEq, and_true, true_and, and_self, if_true, if_false, reduceCtorEq, Nat.reduceLeDiff, Nat.reduceLT, Nat.reduceAdd, Nat.reduceEqDiff, false_and, and_false, exists_const, exists_eq_left, exists_eq_left', exists_and_left, and_assoc, nltL, nltR, nleL, nleR, neqL, neqR, naL, naR, nmL, nmR, nI_ltI, nI_leI, nI_eq, nI_add, nI_mul, nI_clamp, n0l, n0r, nm1, nm1', nm1l, nm1r, nm1g, nsL, nI_m1, Nat.add_sub_cancel, vpn, vpL, nclL, le32, leLL, leLN, leNL, leNN, inA, nb0, nb1, gi_wi_n, gi_wi_e, gi_rw_n, gi_rw_e, aWi_rw, ifl, ifl_, ifle, ifle_, ifq, ifq_, ifnq, ifnq_, ifnl, ifnl_, ifnle, ifnle_, z399 ok, r399_18 ok, f100, f1, r4, n6]
          obtain ⟨h2, eh2⟩ : ∃ h2, h2 = aWi h1 399 3 (nI (sk B T p + 1)) := ⟨_, rfl⟩
          rw [← eh2]
          have a2 : Ag (fun a k => a = 399 ∧ k = 3) h1 h2 := by
            rw [eh2]
            exact (Ag.refl ok).wi ⟨rfl, rfl⟩
          have rc2 := rc1.at a2 (by rw [eh2, gi_wi_e] : gi h2 399 3 = nI (sk B T p + 1))
          have b2 : Ag RM h h2 := b1.trans (a2.mono (fun a k z => m3_rm z))
          cases hi : itG B T 1 (mK 1 + 1) (sk B T p + 1) 0 (usK 1) with
          | none =>
            rw [hi] at hr
            cases hr
          | some ri =>
            rw [hi] at hr rcK rcO
            refine m_items (κ := 1) (A := 411) (fr := 4 * s.2.2.1.length) (sz := 24) (d := d + 1) (by omega) (by omega) (fun h ok => z411 ok) (by show _ + 4 ≤ 24; omega) (by omega) rc2.1 (by omega) rc2.2.1 rc2.2.2.1 hi (fun h3 a3 p3 => ?_)
            have b3 : Ag RM h h3 := b2.trans (a3.mono (fun a k z => iy_rm (by omega) z))
            have t3 : ∀ a k, ¬ (a = 399 ∧ (k = 3 ∨ k = 4)) → ¬ (a = 411 ∧ 4 * s.2.2.1.length ≤ k) → gi h3 a k = gi h2 a k := fun a k z1 z2 => a3.2 _ _ (by unfold IY AtY; omega)
            have ok := a3.1
            have e20 : gi h3 399 20 = nI s.2.2.1.length := by rw [t3 _ _ (by omega) (by omega), rc2.2.2.2.1]
            simp (disch := omega) only [s201_140, s201_143, s201_144, s201_144i, s201_145, s201_148, s201_149, s201_150, s201_153, true_or, or_true, or_false, false_or, or_self, Int32.reduceLT, Int32.reduceLE, Nat.add_zero, Nat.zero_add, Nat.not_lt_zero, not_false_eq_true, not_true_eq_false, and_assoc, kl_q, kl_i, kl_r, kl_n, kl_0, kl_l, cs_0, cs_i, cs_r, cs_n, cs_l, aRf_s, aRf_n, gi_wl, gi_wr, gl_wi, gl_wl, gl_wr, gr_wi, gr_wl, gr_wr, sh_wi, sh_wl, sh_wr, gl_cp, gr_cp, sh_cp, gl_rw, gr_rw, sh_rw, gi_rl, gr_rl, sh_rl, Option.toList_some, Option.toList_none, List.nil_append, List.cons_append, List.append_nil, Option.some.injEq, Prod.mk.injEq, and_true, true_and, and_self, if_true, if_false, reduceCtorEq, Nat.reduceLeDiff, Nat.reduceLT, Nat.reduceAdd, Nat.reduceEqDiff, false_and, and_false, exists_const, exists_eq_left, exists_eq_left', exists_and_left, and_assoc, nltL, nltR, nleL, nleR, neqL, neqR, naL, naR, nmL, nmR, nI_ltI, nI_leI, nI_eq, nI_add, nI_mul, nI_clamp, n0l, n0r, nm1, nm1', nm1l, nm1r, nm1g, nsL, nI_m1, Nat.add_sub_cancel, vpn, vpL, nclL, le32, leLL, leLN, leNL, leNN, inA, nb0, nb1, gi_wi_n, gi_wi_e, gi_rw_n, gi_rw_e, aWi_rw, ifl, ifl_, ifle, ifle_, ifq, ifq_, ifnq, ifnq_, ifnl, ifnl_, ifnle, ifnle_, z399 ok, e20]
            have b4 : Ag RM h (aWi h3 399 20 (nI (s.2.2.1.length + 1))) := b3.trans ((Ag.refl ok).wi (Or.inr (Or.inl ⟨rfl, Or.inl rfl⟩)))
            have aw : Ag (fun a k => a = 399 ∧ k = 20) h3 (aWi h3 399 20 (nI (s.2.2.1.length + 1))) := (Ag.refl ok).wi ⟨rfl, rfl⟩
            cases ri with
            | inl q =>
              cases hr
              refine err q _ 1 _ _ _ (rcK q rfl) rfl b4 ok (p3.2.imp (fun z => by rw [gi_wi_n (by omega), z]) (fun z => ⟨z.1.ag aw (by omega) (by omega), by rw [gi_wi_n (by omega), z.2.1], by rw [gi_wi_n (by omega), z.2.2.1], z.2.2.2⟩))
            | inr x =>
              obtain ⟨p', row⟩ := x
              simp only at hr
              obtain ⟨k1, k2, k3⟩ := rcO _ _ rfl
              obtain ⟨q1, q2, q3, q4⟩ := p3
              obtain ⟨-, -, -, s4, s5, s6, s7, s8⟩ := rc2
              refine aft p' (s.1, s.2.1, s.2.2.1 ++ [row], s.2.2.2) _ _ hr k3 k1 ⟨q1.ag aw (by omega) (by omega), by rw [gi_wi_n (by omega), q2], by rw [gi_wi_n (by omega), q3], ?_, ?_, fun k hk => ?_, fun i hi k hk => ?_, fun i hi k hk => ?_⟩ b4
              · rw [gi_wi_e]
                show _ = nI (s.2.2.1 ++ [row]).length
                rw [List.length_append]
                rfl
              · rw [gi_wi_n (by omega), t3 _ _ (by omega) (by omega), s5]
              · rw [gi_wi_n (by omega), t3 _ _ (by omega) (by omega)]
                exact s6 k hk
              · have hi : i < (s.2.2.1 ++ [row]).length := hi
                rw [List.length_append, List.length_singleton] at hi
                show _ = nI (mf (s.2.2.1 ++ [row]) i k)
                rw [gi_wi_n (by omega)]
                by_cases hil : i = s.2.2.1.length
                · subst hil
                  rw [mf_new]
                  exact q4 k hk
                · rw [mf_old (by omega), t3 _ _ (by omega) (by omega)]
                  exact s7 i (by omega) k hk
              · rw [gi_wi_n (by omega), t3 _ _ (by omega) (by omega)]
                exact s8 i hi k hk
        · rw [if_neg c2] at hr rcK rcO
          have go156 : AW (d + 5) 201 156 [some (.ref 399), some (.int (bI s.1)), some (.int 1), some (.int (lkI B T (sk B T p)))] [] h1 Q := by
            by_cases c3 : sgB B T (sk B T p) = 102 ∧ s.2.2.2.length < 5
            · rw [if_pos c3] at hr rcK rcO
              have hpT := sg_lt (by omega) c3.1
              have f102 := l102.mpr c3.1
              have n5 : ¬ 5 ≤ s.2.2.2.length := by omega
              simp (disch := omega) only [s201_156, s201_157, s201_159, s201_162, s201_163, s201_166, s201_167, s201_170, s201_171, s201_171i, s201_172, s201_175, s201_176, s201_177, s201_180, s201_181, s201_182, s201_183, s201_186, s201_187, s201_188, s201_191, s201_192, s201_193, true_or, or_true, or_false, false_or, or_self, Int32.reduceLT, Int32.reduceLE, Nat.add_zero, Nat.zero_add, Nat.not_lt_zero, not_false_eq_true, not_true_eq_false, and_assoc, kl_q, kl_i, kl_r, kl_n, kl_0, kl_l, cs_0, cs_i, cs_r, cs_n, cs_l, aRf_s, aRf_n, gi_wl, gi_wr, gl_wi, gl_wl, gl_wr, gr_wi, gr_wl, gr_wr, sh_wi, sh_wl, sh_wr, gl_cp, gr_cp, sh_cp, gl_rw, gr_rw, sh_rw, gi_rl, gr_rl, sh_rl, Option.toList_some, Option.toList_none, List.nil_append, List.cons_append, List.append_nil, Option.some.injEq, Prod.mk.injEq, and_true, true_and, and_self, if_true, if_false, reduceCtorEq, Nat.reduceLeDiff, Nat.reduceLT, Nat.reduceAdd, Nat.reduceEqDiff, false_and, and_false, exists_const, exists_eq_left, exists_eq_left', exists_and_left, and_assoc, nltL, nltR, nleL, nleR, neqL, neqR, naL, naR, nmL, nmR, nI_ltI, nI_leI, nI_eq, nI_add, nI_mul, nI_clamp, n0l, n0r, nm1, nm1', nm1l, nm1r, nm1g, nsL, nI_m1, Nat.add_sub_cancel, vpn, vpL, nclL, le32, leLL, leLN, leNL, leNN, inA, nb0, nb1, gi_wi_n, gi_wi_e, gi_rw_n, gi_rw_e, aWi_rw, ifl, ifl_, ifle, ifle_, ifq, ifq_, ifnq, ifnq_, ifnl, ifnl_, ifnle, ifnle_, z399 ok, r399_19 ok, f102, f1, r5, n5]
              obtain ⟨h2, eh2⟩ : ∃ h2, h2 = aWi h1 399 3 (nI (sk B T p + 1)) := ⟨_, rfl⟩
              rw [← eh2]
              have a2 : Ag (fun a k => a = 399 ∧ k = 3) h1 h2 := by
                rw [eh2]
                exact (Ag.refl ok).wi ⟨rfl, rfl⟩
              have rc2 := rc1.at a2 (by rw [eh2, gi_wi_e] : gi h2 399 3 = nI (sk B T p + 1))
              have b2 : Ag RM h h2 := b1.trans (a2.mono (fun a k z => m3_rm z))
              cases hi : itG B T 2 (mK 2 + 1) (sk B T p + 1) 0 (usK 2) with
              | none =>
                rw [hi] at hr
                cases hr
              | some ri =>
                rw [hi] at hr rcK rcO
                refine m_items (κ := 2) (A := 412) (fr := 2 * s.2.2.2.length) (sz := 10) (d := d + 1) (by omega) (by omega) (fun h ok => z412 ok) (by show _ + 2 ≤ 10; omega) (by omega) rc2.1 (by omega) rc2.2.1 rc2.2.2.1 hi (fun h3 a3 p3 => ?_)
                have b3 : Ag RM h h3 := b2.trans (a3.mono (fun a k z => iy_rm (by omega) z))
                have t3 : ∀ a k, ¬ (a = 399 ∧ (k = 3 ∨ k = 4)) → ¬ (a = 412 ∧ 2 * s.2.2.2.length ≤ k) → gi h3 a k = gi h2 a k := fun a k z1 z2 => a3.2 _ _ (by unfold IY AtY; omega)
                have ok := a3.1
                have e21 : gi h3 399 21 = nI s.2.2.2.length := by rw [t3 _ _ (by omega) (by omega), rc2.2.2.2.2.1]
                simp (disch := omega) only [s201_193, s201_196, s201_197, s201_197i, s201_198, s201_201, s201_202, s201_203, s201_206, true_or, or_true, or_false, false_or, or_self, Int32.reduceLT, Int32.reduceLE, Nat.add_zero, Nat.zero_add, Nat.not_lt_zero, not_false_eq_true, not_true_eq_false, and_assoc, kl_q, kl_i, kl_r, kl_n, kl_0, kl_l, cs_0, cs_i, cs_r, cs_n, cs_l, aRf_s, aRf_n, gi_wl, gi_wr, gl_wi, gl_wl, gl_wr, gr_wi, gr_wl, gr_wr, sh_wi, sh_wl, sh_wr, gl_cp, gr_cp, sh_cp, gl_rw, gr_rw, sh_rw, gi_rl, gr_rl, sh_rl, Option.toList_some, Option.toList_none, List.nil_append, List.cons_append, List.append_nil, Option.some.injEq, Prod.mk.injEq, and_true, true_and, and_self, if_true, if_false, reduceCtorEq, Nat.reduceLeDiff, Nat.reduceLT, Nat.reduceAdd, Nat.reduceEqDiff, false_and, and_false, exists_const, exists_eq_left, exists_eq_left', exists_and_left, and_assoc, nltL, nltR, nleL, nleR, neqL, neqR, naL, naR, nmL, nmR, nI_ltI, nI_leI, nI_eq, nI_add, nI_mul, nI_clamp, n0l, n0r, nm1, nm1', nm1l, nm1r, nm1g, nsL, nI_m1, Nat.add_sub_cancel, vpn, vpL, nclL, le32, leLL, leLN, leNL, leNN, inA, nb0, nb1, gi_wi_n, gi_wi_e, gi_rw_n, gi_rw_e, aWi_rw, ifl, ifl_, ifle, ifle_, ifq, ifq_, ifnq, ifnq_, ifnl, ifnl_, ifnle, ifnle_, z399 ok, e21]
                have b4 : Ag RM h (aWi h3 399 21 (nI (s.2.2.2.length + 1))) := b3.trans ((Ag.refl ok).wi (Or.inr (Or.inl ⟨rfl, Or.inr rfl⟩)))
                have aw : Ag (fun a k => a = 399 ∧ k = 21) h3 (aWi h3 399 21 (nI (s.2.2.2.length + 1))) := (Ag.refl ok).wi ⟨rfl, rfl⟩
                cases ri with
                | inl q =>
                  cases hr
                  refine err q _ 2 _ _ _ (rcK q rfl) rfl b4 ok (p3.2.imp (fun z => by rw [gi_wi_n (by omega), z]) (fun z => ⟨z.1.ag aw (by omega) (by omega), by rw [gi_wi_n (by omega), z.2.1], by rw [gi_wi_n (by omega), z.2.2.1], z.2.2.2⟩))
                | inr x =>
                  obtain ⟨p', row⟩ := x
                  simp only at hr
                  obtain ⟨k1, k2, k3⟩ := rcO _ _ rfl
                  obtain ⟨q1, q2, q3, q4⟩ := p3
                  obtain ⟨-, -, -, s4, s5, s6, s7, s8⟩ := rc2
                  refine aft p' (s.1, s.2.1, s.2.2.1, s.2.2.2 ++ [row]) _ _ hr k3 k1 ⟨q1.ag aw (by omega) (by omega), by rw [gi_wi_n (by omega), q2], by rw [gi_wi_n (by omega), q3], ?_, ?_, fun k hk => ?_, fun i hi k hk => ?_, fun i hi k hk => ?_⟩ b4
                  · rw [gi_wi_n (by omega), t3 _ _ (by omega) (by omega), s4]
                  · rw [gi_wi_e]
                    show _ = nI (s.2.2.2 ++ [row]).length
                    rw [List.length_append]
                    rfl
                  · rw [gi_wi_n (by omega), t3 _ _ (by omega) (by omega)]
                    exact s6 k hk
                  · rw [gi_wi_n (by omega), t3 _ _ (by omega) (by omega)]
                    exact s7 i hi k hk
                  · have hi : i < (s.2.2.2 ++ [row]).length := hi
                    rw [List.length_append, List.length_singleton] at hi
                    show _ = nI (mf (s.2.2.2 ++ [row]) i k)
                    rw [gi_wi_n (by omega)]
                    by_cases hil : i = s.2.2.2.length
                    · subst hil
                      rw [mf_new]
                      exact q4 k hk
                    · rw [mf_old (by omega), t3 _ _ (by omega) (by omega)]
                      exact s8 i (by omega) k hk
            · rw [if_neg c3] at hr
              cases hr
              have t : ∀ x, AW (d + 5) 201 209 [some (.ref 399), some (.int (bI s.1)), some (.int 1), some (.int x)] [] h1 Q := by
                intro x
                simp (disch := omega) only [s201_209, s201_210, true_or, or_true, or_false, false_or, or_self, Int32.reduceLT, Int32.reduceLE, Nat.add_zero, Nat.zero_add, Nat.not_lt_zero, not_false_eq_true, not_true_eq_false, and_assoc, kl_q, kl_i, kl_r, kl_n, kl_0, kl_l, cs_0, cs_i, cs_r, cs_n, cs_l, aRf_s, aRf_n, gi_wl, gi_wr, gl_wi, gl_wl, gl_wr, gr_wi, gr_wl, gr_wr, sh_wi, sh_wl, sh_wr, gl_cp, gr_cp, sh_cp, gl_rw, gr_rw, sh_rw, gi_rl, gr_rl, sh_rl, Option.toList_some, Option.toList_none, List.nil_append, List.cons_append, List.append_nil, Option.some.injEq, Prod.mk.injEq, and_true, true_and, and_self, if_true, if_false, reduceCtorEq, Nat.reduceLeDiff, Nat.reduceLT, Nat.reduceAdd, Nat.reduceEqDiff, false_and, and_false, exists_const, exists_eq_left, exists_eq_left', exists_and_left, and_assoc, nltL, nltR, nleL, nleR, neqL, neqR, naL, naR, nmL, nmR, nI_ltI, nI_leI, nI_eq, nI_add, nI_mul, nI_clamp, n0l, n0r, nm1, nm1', nm1l, nm1r, nm1g, nsL, nI_m1, Nat.add_sub_cancel, vpn, vpL, nclL, le32, leLL, leLN, leNL, leNN, inA, nb0, nb1, gi_wi_n, gi_wi_e, gi_rw_n, gi_rw_e, aWi_rw, ifl, ifl_, ifle, ifle_, ifq, ifq_, ifnq, ifnq_, ifnl, ifnl_, ifnle, ifnle_, z399 ok, m_bad ok f1 w1]
                exact err (sk B T p) _ 0 _ _ _ hs.2 rfl (b1.trans ((Ag.refl ok).wi (Or.inl ⟨rfl, Or.inr rfl⟩))) ok (Or.inl gi_wi_e)
              by_cases z : sgB B T (sk B T p) = 102
              · have f102 := l102.mpr z
                have n5 : 5 ≤ s.2.2.2.length := by omega
                rw [f102]
                simp (disch := omega) only [s201_156, s201_157, s201_159, s201_162, s201_163, s201_166, s201_167, s201_170, s201_171, s201_171i, s201_172, s201_175, s201_176, s201_177, s201_180, s201_181, s201_182, s201_183, s201_186, s201_187, s201_188, s201_191, s201_192, s201_193, s201_196, s201_197, s201_197i, s201_198, s201_201, s201_202, s201_203, s201_206, true_or, or_true, or_false, false_or, or_self, Int32.reduceLT, Int32.reduceLE, Nat.add_zero, Nat.zero_add, Nat.not_lt_zero, not_false_eq_true, not_true_eq_false, and_assoc, kl_q, kl_i, kl_r, kl_n, kl_0, kl_l, cs_0, cs_i, cs_r, cs_n, cs_l, aRf_s, aRf_n, gi_wl, gi_wr, gl_wi, gl_wl, gl_wr, gr_wi, gr_wl, gr_wr, sh_wi, sh_wl, sh_wr, gl_cp, gr_cp, sh_cp, gl_rw, gr_rw, sh_rw, gi_rl, gr_rl, sh_rl, Option.toList_some, Option.toList_none, List.nil_append, List.cons_append, List.append_nil, Option.some.injEq, Prod.mk.injEq, and_true, true_and, and_self, if_true, if_false, reduceCtorEq, Nat.reduceLeDiff, Nat.reduceLT, Nat.reduceAdd, Nat.reduceEqDiff, false_and, and_false, exists_const, exists_eq_left, exists_eq_left', exists_and_left, and_assoc, nltL, nltR, nleL, nleR, neqL, neqR, naL, naR, nmL, nmR, nI_ltI, nI_leI, nI_eq, nI_add, nI_mul, nI_clamp, n0l, n0r, nm1, nm1', nm1l, nm1r, nm1g, nsL, nI_m1, Nat.add_sub_cancel, vpn, vpL, nclL, le32, leLL, leLN, leNL, leNN, inA, nb0, nb1, gi_wi_n, gi_wi_e, gi_rw_n, gi_rw_e, aWi_rw, ifl, ifl_, ifle, ifle_, ifq, ifq_, ifnq, ifnq_, ifnl, ifnl_, ifnle, ifnle_, z399 ok, r5, n5]
                exact t _
              · have n102 : ¬ lkI B T (sk B T p) = 102 := fun q => z (l102.mp q)
                simp (disch := omega) only [s201_156, s201_157, s201_159, s201_162, s201_163, s201_166, s201_167, s201_170, s201_171, s201_171i, s201_172, s201_175, s201_176, s201_177, s201_180, s201_181, s201_182, s201_183, s201_186, s201_187, s201_188, s201_191, s201_192, s201_193, s201_196, s201_197, s201_197i, s201_198, s201_201, s201_202, s201_203, s201_206, true_or, or_true, or_false, false_or, or_self, Int32.reduceLT, Int32.reduceLE, Nat.add_zero, Nat.zero_add, Nat.not_lt_zero, not_false_eq_true, not_true_eq_false, and_assoc, kl_q, kl_i, kl_r, kl_n, kl_0, kl_l, cs_0, cs_i, cs_r, cs_n, cs_l, aRf_s, aRf_n, gi_wl, gi_wr, gl_wi, gl_wl, gl_wr, gr_wi, gr_wl, gr_wr, sh_wi, sh_wl, sh_wr, gl_cp, gr_cp, sh_cp, gl_rw, gr_rw, sh_rw, gi_rl, gr_rl, sh_rl, Option.toList_some, Option.toList_none, List.nil_append, List.cons_append, List.append_nil, Option.some.injEq, Prod.mk.injEq, and_true, true_and, and_self, if_true, if_false, reduceCtorEq, Nat.reduceLeDiff, Nat.reduceLT, Nat.reduceAdd, Nat.reduceEqDiff, false_and, and_false, exists_const, exists_eq_left, exists_eq_left', exists_and_left, and_assoc, nltL, nltR, nleL, nleR, neqL, neqR, naL, naR, nmL, nmR, nI_ltI, nI_leI, nI_eq, nI_add, nI_mul, nI_clamp, n0l, n0r, nm1, nm1', nm1l, nm1r, nm1g, nsL, nI_m1, Nat.add_sub_cancel, vpn, vpL, nclL, le32, leLL, leLN, leNL, leNN, inA, nb0, nb1, gi_wi_n, gi_wi_e, gi_rw_n, gi_rw_e, aWi_rw, ifl, ifl_, ifle, ifle_, ifq, ifq_, ifnq, ifnq_, ifnl, ifnl_, ifnle, ifnle_, n102]
                exact t _
          by_cases z : sgB B T (sk B T p) = 100
          · have f100 := l100.mpr z
            have n6 : 6 ≤ s.2.2.1.length := by omega
            rw [f100] at go156 ⊢
            simp (disch := omega) only [s201_102, s201_103, s201_105, s201_108, s201_109, s201_112, s201_114, s201_117, s201_118, s201_118i, s201_119, s201_122, s201_123, s201_124, s201_127, s201_128, s201_129, s201_130, s201_133, s201_134, s201_135, s201_138, s201_139, s201_140, s201_143, s201_144, s201_144i, s201_145, s201_148, s201_149, s201_150, s201_153, true_or, or_true, or_false, false_or, or_self, Int32.reduceLT, Int32.reduceLE, Nat.add_zero, Nat.zero_add, Nat.not_lt_zero, not_false_eq_true, not_true_eq_false, and_assoc, kl_q, kl_i, kl_r, kl_n, kl_0, kl_l, cs_0, cs_i, cs_r, cs_n, cs_l, aRf_s, aRf_n, gi_wl, gi_wr, gl_wi, gl_wl, gl_wr, gr_wi, gr_wl, gr_wr, sh_wi, sh_wl, sh_wr, gl_cp, gr_cp, sh_cp, gl_rw, gr_rw, sh_rw, gi_rl, gr_rl, sh_rl, Option.toList_some, Option.toList_none, List.nil_append, List.cons_append, List.append_nil, Option.some.injEq, Prod.mk.injEq, and_true, true_and, and_self, if_true, if_false, reduceCtorEq, Nat.reduceLeDiff, Nat.reduceLT, Nat.reduceAdd, Nat.reduceEqDiff, false_and, and_false, exists_const, exists_eq_left, exists_eq_left', exists_and_left, and_assoc, nltL, nltR, nleL, nleR, neqL, neqR, naL, naR, nmL, nmR, nI_ltI, nI_leI, nI_eq, nI_add, nI_mul, nI_clamp, n0l, n0r, nm1, nm1', nm1l, nm1r, nm1g, nsL, nI_m1, Nat.add_sub_cancel, vpn, vpL, nclL, le32, leLL, leLN, leNL, leNN, inA, nb0, nb1, gi_wi_n, gi_wi_e, gi_rw_n, gi_rw_e, aWi_rw, ifl, ifl_, ifle, ifle_, ifq, ifq_, ifnq, ifnq_, ifnl, ifnl_, ifnle, ifnle_, z399 ok, r4, n6]
            exact go156
          · have n100 : ¬ lkI B T (sk B T p) = 100 := fun q => z (l100.mp q)
            simp (disch := omega) only [s201_102, s201_103, s201_105, s201_108, s201_109, s201_112, s201_114, s201_117, s201_118, s201_118i, s201_119, s201_122, s201_123, s201_124, s201_127, s201_128, s201_129, s201_130, s201_133, s201_134, s201_135, s201_138, s201_139, s201_140, s201_143, s201_144, s201_144i, s201_145, s201_148, s201_149, s201_150, s201_153, true_or, or_true, or_false, false_or, or_self, Int32.reduceLT, Int32.reduceLE, Nat.add_zero, Nat.zero_add, Nat.not_lt_zero, not_false_eq_true, not_true_eq_false, and_assoc, kl_q, kl_i, kl_r, kl_n, kl_0, kl_l, cs_0, cs_i, cs_r, cs_n, cs_l, aRf_s, aRf_n, gi_wl, gi_wr, gl_wi, gl_wl, gl_wr, gr_wi, gr_wl, gr_wr, sh_wi, sh_wl, sh_wr, gl_cp, gr_cp, sh_cp, gl_rw, gr_rw, sh_rw, gi_rl, gr_rl, sh_rl, Option.toList_some, Option.toList_none, List.nil_append, List.cons_append, List.append_nil, Option.some.injEq, Prod.mk.injEq, and_true, true_and, and_self, if_true, if_false, reduceCtorEq, Nat.reduceLeDiff, Nat.reduceLT, Nat.reduceAdd, Nat.reduceEqDiff, false_and, and_false, exists_const, exists_eq_left, exists_eq_left', exists_and_left, and_assoc, nltL, nltR, nleL, nleR, neqL, neqR, naL, naR, nmL, nmR, nI_ltI, nI_leI, nI_eq, nI_add, nI_mul, nI_clamp, n0l, n0r, nm1, nm1', nm1l, nm1r, nm1g, nsL, nI_m1, Nat.add_sub_cancel, vpn, vpL, nclL, le32, leLL, leLN, leNL, leNN, inA, nb0, nb1, gi_wi_n, gi_wi_e, gi_rw_n, gi_rw_e, aWi_rw, ifl, ifl_, ifle, ifle_, ifq, ifq_, ifnq, ifnq_, ifnl, ifnl_, ifnle, ifnle_, n100]
            exact go156
      by_cases z : sgB B T (sk B T p) = 115
      · have f115 := l115.mpr z
        have e1 : s.1 = true := by
          cases hs1 : s.1
          · exact absurd ⟨z, hs1⟩ c1
          · rfl
        rw [f115, e1] at go102
        rw [f115, e1]
        simp (disch := omega) only [s201_65, s201_66, s201_67, s201_69, s201_72, s201_73, s201_76, s201_77, s201_78, s201_79, s201_79i, s201_80, s201_83, s201_84, s201_85, s201_88, s201_89, s201_90, s201_91, s201_94, s201_95, s201_96, s201_99, true_or, or_true, or_false, false_or, or_self, Int32.reduceLT, Int32.reduceLE, Nat.add_zero, Nat.zero_add, Nat.not_lt_zero, not_false_eq_true, not_true_eq_false, and_assoc, kl_q, kl_i, kl_r, kl_n, kl_0, kl_l, cs_0, cs_i, cs_r, cs_n, cs_l, aRf_s, aRf_n, gi_wl, gi_wr, gl_wi, gl_wl, gl_wr, gr_wi, gr_wl, gr_wr, sh_wi, sh_wl, sh_wr, gl_cp, gr_cp, sh_cp, gl_rw, gr_rw, sh_rw, gi_rl, gr_rl, sh_rl, Option.toList_some, Option.toList_none, List.nil_append, List.cons_append, List.append_nil, Option.some.injEq, Prod.mk.injEq, and_true, true_and, and_self, if_true, if_false, reduceCtorEq, Nat.reduceLeDiff, Nat.reduceLT, Nat.reduceAdd, Nat.reduceEqDiff, false_and, and_false, exists_const, exists_eq_left, exists_eq_left', exists_and_left, and_assoc, nltL, nltR, nleL, nleR, neqL, neqR, naL, naR, nmL, nmR, nI_ltI, nI_leI, nI_eq, nI_add, nI_mul, nI_clamp, n0l, n0r, nm1, nm1', nm1l, nm1r, nm1g, nsL, nI_m1, Nat.add_sub_cancel, vpn, vpL, nclL, le32, leLL, leLN, leNL, leNN, inA, nb0, nb1, gi_wi_n, gi_wi_e, gi_rw_n, gi_rw_e, aWi_rw, ifl, ifl_, ifle, ifle_, ifq, ifq_, ifnq, ifnq_, ifnl, ifnl_, ifnle, ifnle_, bI_t]
        exact go102
      · have n115 : ¬ lkI B T (sk B T p) = 115 := fun q => z (l115.mp q)
        simp (disch := omega) only [s201_65, s201_66, s201_67, s201_69, s201_72, s201_73, s201_76, s201_77, s201_78, s201_79, s201_79i, s201_80, s201_83, s201_84, s201_85, s201_88, s201_89, s201_90, s201_91, s201_94, s201_95, s201_96, s201_99, true_or, or_true, or_false, false_or, or_self, Int32.reduceLT, Int32.reduceLE, Nat.add_zero, Nat.zero_add, Nat.not_lt_zero, not_false_eq_true, not_true_eq_false, and_assoc, kl_q, kl_i, kl_r, kl_n, kl_0, kl_l, cs_0, cs_i, cs_r, cs_n, cs_l, aRf_s, aRf_n, gi_wl, gi_wr, gl_wi, gl_wl, gl_wr, gr_wi, gr_wl, gr_wr, sh_wi, sh_wl, sh_wr, gl_cp, gr_cp, sh_cp, gl_rw, gr_rw, sh_rw, gi_rl, gr_rl, sh_rl, Option.toList_some, Option.toList_none, List.nil_append, List.cons_append, List.append_nil, Option.some.injEq, Prod.mk.injEq, and_true, true_and, and_self, if_true, if_false, reduceCtorEq, Nat.reduceLeDiff, Nat.reduceLT, Nat.reduceAdd, Nat.reduceEqDiff, false_and, and_false, exists_const, exists_eq_left, exists_eq_left', exists_and_left, and_assoc, nltL, nltR, nleL, nleR, neqL, neqR, naL, naR, nmL, nmR, nI_ltI, nI_leI, nI_eq, nI_add, nI_mul, nI_clamp, n0l, n0r, nm1, nm1', nm1l, nm1r, nm1g, nsL, nI_m1, Nat.add_sub_cancel, vpn, vpL, nclL, le32, leLL, leLN, leNL, leNN, inA, nb0, nb1, gi_wi_n, gi_wi_e, gi_rw_n, gi_rw_e, aWi_rw, ifl, ifl_, ifle, ifle_, ifq, ifq_, ifnq, ifnq_, ifnl, ifnl_, ifnle, ifnle_, n115]
        exact go102
theorem m_readRide {f : Nat} {h : aM} (tc : TpM h B T) (hr : rdG B T f 0 (false, usK 0, [], []) = some r) (hq : ∀ h', Ag RM h h' → PostF B T Q r h') : AW (d + 5) 201 0 [some (.ref 399), none, none, none] [] h Q := by
  have ok := tc.1
  simp (disch := omega) only [s201_0, s201_1, s201_2, s201_5, s201_6, s201_7, s201_10, s201_11, s201_12, s201_15, s201_16, s201_17, s201_20, s201_21, s201_22, s201_23, true_or, or_true, or_false, false_or, or_self, Int32.reduceLT, Int32.reduceLE, Nat.add_zero, Nat.zero_add, Nat.not_lt_zero, not_false_eq_true, not_true_eq_false, and_assoc, kl_q, kl_i, kl_r, kl_n, kl_0, kl_l, cs_0, cs_i, cs_r, cs_n, cs_l, aRf_s, aRf_n, gi_wl, gi_wr, gl_wi, gl_wl, gl_wr, gr_wi, gr_wl, gr_wr, sh_wi, sh_wl, sh_wr, gl_cp, gr_cp, sh_cp, gl_rw, gr_rw, sh_rw, gi_rl, gr_rl, sh_rl, Option.toList_some, Option.toList_none, List.nil_append, List.cons_append, List.append_nil, Option.some.injEq, Prod.mk.injEq, and_true, true_and, and_self, if_true, if_false, reduceCtorEq, Nat.reduceLeDiff, Nat.reduceLT, Nat.reduceAdd, Nat.reduceEqDiff, false_and, and_false, exists_const, exists_eq_left, exists_eq_left', exists_and_left, and_assoc, nltL, nltR, nleL, nleR, neqL, neqR, naL, naR, nmL, nmR, nI_ltI, nI_leI, nI_eq, nI_add, nI_mul, nI_clamp, n0l, n0r, nm1, nm1', nm1l, nm1r, nm1g, nsL, nI_m1, Nat.add_sub_cancel, vpn, vpL, nclL, le32, leLL, leLN, leNL, leNN, inA, nb0, nb1, gi_wi_n, gi_wi_e, gi_rw_n, gi_rw_e, aWi_rw, ifl, ifl_, ifle, ifle_, ifq, ifq_, ifnq, ifnq_, ifnl, ifnl_, ifnle, ifnle_, z399 ok]
  obtain ⟨h1, eh1⟩ : ∃ h1, h1 = aWi (aWi (aWi (aWi h 399 3 0) 399 4 (-1)) 399 20 0) 399 21 0 := ⟨_, rfl⟩
  rw [← eh1]
  have a1 : Ag RM h h1 := by
    rw [eh1]
    exact ((((Ag.refl ok).wi (by unfold RM AtY; omega)).wi (by unfold RM AtY; omega)).wi (by unfold RM AtY; omega)).wi (by unfold RM AtY; omega)
  refine aLoop 5 (fun j lv h' => lv = [some (.ref 399), some (.int 0), some (.int (nI j)), none] ∧ Ag (fun a _ => a = 410) h1 h' ∧ ∀ k, k < j → gi h' 410 k = nI (usK 0 k)) ?_ ?_ 0 _ _ (Nat.zero_le _) ⟨rfl, Ag.refl a1.1, fun k hk => absurd hk (Nat.not_lt_zero _)⟩
  · rintro j lv h' hj ⟨rfl, a2, e2⟩ hk
    have ok := a2.1
    have n1 : ¬ 5 ≤ j := by omega
    have mu := m_usual (d := d + 4) (h := h') (κ := 0) (k := j) (Q := fun v h => AW (d + 4 + 1) 201 40 [some (.ref 399), some (.int 0), some (.int (nI j)), none] (v.toList ++ [.int (nI j), .ref 410]) h Q) (by omega) hj
    rw [s201_24]
    simp (disch := omega) only [s201_25, s201_26, s201_29, s201_30, s201_33, s201_34, s201_36, s201_37, true_or, or_true, or_false, false_or, or_self, Int32.reduceLT, Int32.reduceLE, Nat.add_zero, Nat.zero_add, Nat.not_lt_zero, not_false_eq_true, not_true_eq_false, and_assoc, kl_q, kl_i, kl_r, kl_n, kl_0, kl_l, cs_0, cs_i, cs_r, cs_n, cs_l, aRf_s, aRf_n, gi_wl, gi_wr, gl_wi, gl_wl, gl_wr, gr_wi, gr_wl, gr_wr, sh_wi, sh_wl, sh_wr, gl_cp, gr_cp, sh_cp, gl_rw, gr_rw, sh_rw, gi_rl, gr_rl, sh_rl, Option.toList_some, Option.toList_none, List.nil_append, List.cons_append, List.append_nil, Option.some.injEq, Prod.mk.injEq, and_true, true_and, and_self, if_true, if_false, reduceCtorEq, Nat.reduceLeDiff, Nat.reduceLT, Nat.reduceAdd, Nat.reduceEqDiff, false_and, and_false, exists_const, exists_eq_left, exists_eq_left', exists_and_left, and_assoc, nltL, nltR, nleL, nleR, neqL, neqR, naL, naR, nmL, nmR, nI_ltI, nI_leI, nI_eq, nI_add, nI_mul, nI_clamp, n0l, n0r, nm1, nm1', nm1l, nm1r, nm1g, nsL, nI_m1, Nat.add_sub_cancel, vpn, vpL, nclL, le32, leLL, leLN, leNL, leNN, inA, nb0, nb1, gi_wi_n, gi_wi_e, gi_rw_n, gi_rw_e, aWi_rw, ifl, ifl_, ifle, ifle_, ifq, ifq_, ifnq, ifnq_, ifnl, ifnl_, ifnle, ifnle_, z399 ok, r399_17 ok, n1]
    refine mu.mpr ?_
    simp (disch := omega) only [s201_40, s201_41, s201_44, true_or, or_true, or_false, false_or, or_self, Int32.reduceLT, Int32.reduceLE, Nat.add_zero, Nat.zero_add, Nat.not_lt_zero, not_false_eq_true, not_true_eq_false, and_assoc, kl_q, kl_i, kl_r, kl_n, kl_0, kl_l, cs_0, cs_i, cs_r, cs_n, cs_l, aRf_s, aRf_n, gi_wl, gi_wr, gl_wi, gl_wl, gl_wr, gr_wi, gr_wl, gr_wr, sh_wi, sh_wl, sh_wr, gl_cp, gr_cp, sh_cp, gl_rw, gr_rw, sh_rw, gi_rl, gr_rl, sh_rl, Option.toList_some, Option.toList_none, List.nil_append, List.cons_append, List.append_nil, Option.some.injEq, Prod.mk.injEq, and_true, true_and, and_self, if_true, if_false, reduceCtorEq, Nat.reduceLeDiff, Nat.reduceLT, Nat.reduceAdd, Nat.reduceEqDiff, false_and, and_false, exists_const, exists_eq_left, exists_eq_left', exists_and_left, and_assoc, nltL, nltR, nleL, nleR, neqL, neqR, naL, naR, nmL, nmR, nI_ltI, nI_leI, nI_eq, nI_add, nI_mul, nI_clamp, n0l, n0r, nm1, nm1', nm1l, nm1r, nm1g, nsL, nI_m1, Nat.add_sub_cancel, vpn, vpL, nclL, le32, leLL, leLN, leNL, leNN, inA, nb0, nb1, gi_wi_n, gi_wi_e, gi_rw_n, gi_rw_e, aWi_rw, ifl, ifl_, ifle, ifle_, ifq, ifq_, ifnq, ifnq_, ifnl, ifnl_, ifnle, ifnle_, z410 ok, hj]
    refine hk _ _ ⟨rfl, a2.wi rfl, fun k hk2 => ?_⟩
    by_cases hkj : k = j
    · subst hkj
      rw [gi_wi_e]
    · rw [gi_wi_n (by omega)]
      exact e2 k (by omega)
  · rintro lv h' ⟨rfl, a2, e2⟩
    have b2 : Ag RM h h' := a1.trans (a2.mono (fun a k z => by unfold RM; omega))
    have t2 : ∀ k, gi h' 399 k = gi h1 399 k := fun k => a2.2 _ _ (by omega)
    rw [s201_24]
    simp (disch := omega) only [s201_25, s201_26, s201_29, s201_30, s201_33, s201_34, s201_36, s201_37, s201_40, s201_41, s201_44, s201_47, s201_48, true_or, or_true, or_false, false_or, or_self, Int32.reduceLT, Int32.reduceLE, Nat.add_zero, Nat.zero_add, Nat.not_lt_zero, not_false_eq_true, not_true_eq_false, and_assoc, kl_q, kl_i, kl_r, kl_n, kl_0, kl_l, cs_0, cs_i, cs_r, cs_n, cs_l, aRf_s, aRf_n, gi_wl, gi_wr, gl_wi, gl_wl, gl_wr, gr_wi, gr_wl, gr_wr, sh_wi, sh_wl, sh_wr, gl_cp, gr_cp, sh_cp, gl_rw, gr_rw, sh_rw, gi_rl, gr_rl, sh_rl, Option.toList_some, Option.toList_none, List.nil_append, List.cons_append, List.append_nil, Option.some.injEq, Prod.mk.injEq, and_true, true_and, and_self, if_true, if_false, reduceCtorEq, Nat.reduceLeDiff, Nat.reduceLT, Nat.reduceAdd, Nat.reduceEqDiff, false_and, and_false, exists_const, exists_eq_left, exists_eq_left', exists_and_left, and_assoc, nltL, nltR, nleL, nleR, neqL, neqR, naL, naR, nmL, nmR, nI_ltI, nI_leI, nI_eq, nI_add, nI_mul, nI_clamp, n0l, n0r, nm1, nm1', nm1l, nm1r, nm1g, nsL, nI_m1, Nat.add_sub_cancel, vpn, vpL, nclL, le32, leLL, leLN, leNL, leNN, inA, nb0, nb1, gi_wi_n, gi_wi_e, gi_rw_n, gi_rw_e, aWi_rw, ifl, ifl_, ifle, ifle_, ifq, ifq_, ifnq, ifnq_, ifnl, ifnl_, ifnle, ifnle_, Nat.le_refl]
    refine m_rideGo f 0 _ h' _ hr (Nat.zero_le _) rs0 ⟨tc.ag b2 (by unfold RM AtY; omega) (by unfold RM AtY; omega), ?_, ?_, ?_, ?_, e2, fun i hi => absurd hi (Nat.not_lt_zero _), fun i hi => absurd hi (Nat.not_lt_zero _)⟩ (fun h3 a3 => hq h3 (b2.trans a3))
    · rw [t2, eh1, gi_wi_n (by omega), gi_wi_n (by omega), gi_wi_n (by omega), gi_wi_e]
      rfl
    · rw [t2, eh1, gi_wi_n (by omega), gi_wi_n (by omega), gi_wi_e]
    · rw [t2, eh1, gi_wi_n (by omega), gi_wi_e]
      rfl
    · rw [t2, eh1, gi_wi_e]
      rfl
end D7
