-- deps: 81.mpars4
section M5
variable {B : Nat → Nat} {T n : Nat}
theorem simM9 (i0 : SimM B T n 0) (i10 : SimM B T n 10) (i9 : SimM B T n 9) (i5 : SimM B T n 5) : SimM B T (n + 1) 9 := by
  intro e p r ts sl h d Q hr hp he hl rc hq
  rw [prE9] at hr
  show AW (d + 12 * (7 - e) + 9) 182 0 [some (.ref 399), none] [] h Q
  have rc : RdM h B T p ts sl e := rc
  have hs := sk_le (B := B) hp
  have hT := rc.1.2.1
  have hbb := rc.1.2.2.2.2
  have ok := rc.ok
  have l33 := lk_sg (q := sk B T p) hbb (b := 33) (by omega) (by omega)
  rw [show nI 33 = (33 : Int32) from rfl] at l33
  have l40 := lk_sg (q := sk B T p) hbb (b := 40) (by omega) (by omega)
  rw [show nI 40 = (40 : Int32) from rfl] at l40
  simp (disch := omega) only [s182_0, s182_1, s182_4, true_or, or_true, or_false, false_or, or_self, Int32.reduceLT, Int32.reduceLE, Nat.add_zero, Nat.zero_add, Nat.not_lt_zero, not_false_eq_true, not_true_eq_false, and_assoc, kl_q, kl_i, kl_r, kl_n, kl_0, kl_l, cs_0, cs_i, cs_r, cs_n, cs_l, aRf_s, aRf_n, gi_wl, gi_wr, gl_wi, gl_wl, gl_wr, gr_wi, gr_wl, gr_wr, sh_wi, sh_wl, sh_wr, gl_cp, gr_cp, sh_cp, gl_rw, gr_rw, sh_rw, gi_rl, gr_rl, sh_rl, Option.toList_some, Option.toList_none, List.nil_append, List.cons_append, List.append_nil, Option.some.injEq, Prod.mk.injEq, and_true, true_and, and_self, if_true, if_false, reduceCtorEq, Nat.reduceLeDiff, Nat.reduceLT, Nat.reduceAdd, Nat.reduceEqDiff, false_and, and_false, exists_const, exists_eq_left, exists_eq_left', exists_and_left, and_assoc, nltL, nltR, nleL, nleR, neqL, neqR, naL, naR, nmL, nmR, nI_ltI, nI_leI, nI_eq, nI_add, nI_mul, nI_clamp, n0l, n0r, nm1, nm1', nm1l, nm1r, nm1g, nsL, nI_m1, Nat.add_sub_cancel, vpn, vpL, nclL, le32, leLL, leLN, leNL, leNN, inA, nb0, nb1, gi_wi_n, gi_wi_e, gi_rw_n, gi_rw_e, aWi_rw, ifl, ifl_, ifle, ifle_, ifq, ifq_, ifnq, ifnq_, ifnl, ifnl_, ifnle, ifnle_, z399 ok]
  refine m_lookM rc.1 hp rc.2.1 (fun h1 a1 f1 => ?_)
  have rc1 := rc.at a1 f1
  have ok := rc1.ok
  have b1 : Ag (ML sl) h h1 := a1.mono (fun a k z => ml3 z)
  have w1 := rc1.2.2.1
  have d1 := rc1.2.2.2.1
  have full : e = 6 → EdM (aWi (aWi (aWi h1 399 4 (nI (sk B T p))) 399 5 (nI (6 + 1))) 399 3 (nI (sk B T p + 1))) sl (sk B T p) (250 + 10 * (7 - e) + 4) ∧ Ag (ML sl) h (aWi (aWi (aWi h1 399 4 (nI (sk B T p))) 399 5 (nI (6 + 1))) 399 3 (nI (sk B T p + 1))) := by
    intro _
    obtain ⟨ed, ae⟩ := rc1.bad (J := 240) (by omega)
    exact ⟨EdM.mono ((ed.wi (Or.inr rfl)).wi (Or.inl rfl)) (by omega), (b1.trans ae).trans (((Ag.refl ed.1).wi (Or.inl ⟨rfl, Or.inr (Or.inr rfl)⟩)).wi (ml3 ⟨rfl, rfl⟩))⟩
  have rc2 : RdM (aWi (aWi h1 399 5 (nI (e + 1))) 399 3 (nI (sk B T p + 1))) B T (sk B T p + 1) ts sl (e + 1) := rc1.dp (((Ag.refl ok).wi ⟨rfl, Or.inr rfl⟩).wi ⟨rfl, Or.inl rfl⟩) gi_wi_e (by rw [gi_wi_n (by omega), gi_wi_e])
  have b2 : Ag (ML sl) h (aWi (aWi h1 399 5 (nI (e + 1))) 399 3 (nI (sk B T p + 1))) := b1.trans (((Ag.refl ok).wi (Or.inl ⟨rfl, Or.inr (Or.inr rfl)⟩)).wi (ml3 ⟨rfl, rfl⟩))
  by_cases b33 : sgB B T (sk B T p) = 33
  · rw [if_pos b33] at hr
    have hq1 := sg_lt (by omega) b33
    have f33 := l33.mpr b33
    rw [f33]
    by_cases he6 : e < 6
    · rw [if_pos he6] at hr
      have e6 : ¬ e = 6 := by omega
      simp (disch := omega) only [s182_4, s182_5, s182_6, s182_8, s182_11, s182_12, s174_0, s174_1, s174_4, s174_6, s174_9, s174_10, s174_13, s174_14, s174_14i, s174_15, s174_18, s174_19, s174_20, s174_23, s174_24, s174_24i, s174_25, s174_28, s174_29, s174_30, s174_33, true_or, or_true, or_false, false_or, or_self, Int32.reduceLT, Int32.reduceLE, Nat.add_zero, Nat.zero_add, Nat.not_lt_zero, not_false_eq_true, not_true_eq_false, and_assoc, kl_q, kl_i, kl_r, kl_n, kl_0, kl_l, cs_0, cs_i, cs_r, cs_n, cs_l, aRf_s, aRf_n, gi_wl, gi_wr, gl_wi, gl_wl, gl_wr, gr_wi, gr_wl, gr_wr, sh_wi, sh_wl, sh_wr, gl_cp, gr_cp, sh_cp, gl_rw, gr_rw, sh_rw, gi_rl, gr_rl, sh_rl, Option.toList_some, Option.toList_none, List.nil_append, List.cons_append, List.append_nil, Option.some.injEq, Prod.mk.injEq, and_true, true_and, and_self, if_true, if_false, reduceCtorEq, Nat.reduceLeDiff, Nat.reduceLT, Nat.reduceAdd, Nat.reduceEqDiff, false_and, and_false, exists_const, exists_eq_left, exists_eq_left', exists_and_left, and_assoc, nltL, nltR, nleL, nleR, neqL, neqR, naL, naR, nmL, nmR, nI_ltI, nI_leI, nI_eq, nI_add, nI_mul, nI_clamp, n0l, n0r, nm1, nm1', nm1l, nm1r, nm1g, nsL, nI_m1, Nat.add_sub_cancel, vpn, vpL, nclL, le32, leLL, leLN, leNL, leNN, inA, nb0, nb1, gi_wi_n, gi_wi_e, gi_rw_n, gi_rw_e, aWi_rw, ifl, ifl_, ifle, ifle_, ifq, ifq_, ifnq, ifnq_, ifnl, ifnl_, ifnle, ifnle_, z399 ok, d1, e6, f1]
      obtain ⟨h2, eh2⟩ : ∃ h2, h2 = aWi (aWi h1 399 5 (nI (e + 1))) 399 3 (nI (sk B T p + 1)) := ⟨_, rfl⟩
      rw [← eh2] at rc2 b2 ⊢
      have ok := rc2.ok
      have w2 := rc2.2.2.1
      simp (disch := omega) only [s182_15, s182_16, s182_19, s182_20, s182_23, s182_24, true_or, or_true, or_false, false_or, or_self, Int32.reduceLT, Int32.reduceLE, Nat.add_zero, Nat.zero_add, Nat.not_lt_zero, not_false_eq_true, not_true_eq_false, and_assoc, kl_q, kl_i, kl_r, kl_n, kl_0, kl_l, cs_0, cs_i, cs_r, cs_n, cs_l, aRf_s, aRf_n, gi_wl, gi_wr, gl_wi, gl_wl, gl_wr, gr_wi, gr_wl, gr_wr, sh_wi, sh_wl, sh_wr, gl_cp, gr_cp, sh_cp, gl_rw, gr_rw, sh_rw, gi_rl, gr_rl, sh_rl, Option.toList_some, Option.toList_none, List.nil_append, List.cons_append, List.append_nil, Option.some.injEq, Prod.mk.injEq, and_true, true_and, and_self, if_true, if_false, reduceCtorEq, Nat.reduceLeDiff, Nat.reduceLT, Nat.reduceAdd, Nat.reduceEqDiff, false_and, and_false, exists_const, exists_eq_left, exists_eq_left', exists_and_left, and_assoc, nltL, nltR, nleL, nleR, neqL, neqR, naL, naR, nmL, nmR, nI_ltI, nI_leI, nI_eq, nI_add, nI_mul, nI_clamp, n0l, n0r, nm1, nm1', nm1l, nm1r, nm1g, nsL, nI_m1, Nat.add_sub_cancel, vpn, vpL, nclL, le32, leLL, leLN, leNL, leNN, inA, nb0, nb1, gi_wi_n, gi_wi_e, gi_rw_n, gi_rw_e, aWi_rw, ifl, ifl_, ifle, ifle_, ifq, ifq_, ifnq, ifnq_, ifnl, ifnl_, ifnle, ifnle_, z399 ok, w2]
      rw [show d + 12 * (7 - e) + 8 = (d + 11) + 12 * (7 - (e + 1)) + 9 by omega]
      rcases bnd_of hr with ⟨q1, e1, rfl⟩ | ⟨p1, t1, e1, h5⟩
      · have ps := pr_pos _ _ _ _ _ e1 (by omega)
        unfold PosR at ps
        simp only at ps
        refine i9 (e + 1) (sk B T p + 1) _ ts sl _ (d + 11) _ e1 (by omega) (by omega) (by omega) rc2 (fun h3 a3 ed => ?_)
        have ed : EdM h3 sl q1 (250 + 10 * (7 - (e + 1)) + 4) := ed
        have ok := ed.1
        simp (disch := omega) only [s182_27, s182_28, s182_30, s182_31, s182_34, s182_35, s182_35i, s182_36, s182_39, s182_40, s182_41, s182_44, s182_47, s182_48, s182_50, s182_53, s182_54, s182_57, s182_58, s182_61, s182_62, s182_65, s182_66, s182_69, s182_70, s182_72, s182_75, s182_78, s182_79, s182_82, s182_83, s182_86, s182_87, s182_90, s182_91, s182_94, true_or, or_true, or_false, false_or, or_self, Int32.reduceLT, Int32.reduceLE, Nat.add_zero, Nat.zero_add, Nat.not_lt_zero, not_false_eq_true, not_true_eq_false, and_assoc, kl_q, kl_i, kl_r, kl_n, kl_0, kl_l, cs_0, cs_i, cs_r, cs_n, cs_l, aRf_s, aRf_n, gi_wl, gi_wr, gl_wi, gl_wl, gl_wr, gr_wi, gr_wl, gr_wr, sh_wi, sh_wl, sh_wr, gl_cp, gr_cp, sh_cp, gl_rw, gr_rw, sh_rw, gi_rl, gr_rl, sh_rl, Option.toList_some, Option.toList_none, List.nil_append, List.cons_append, List.append_nil, Option.some.injEq, Prod.mk.injEq, and_true, true_and, and_self, if_true, if_false, reduceCtorEq, Nat.reduceLeDiff, Nat.reduceLT, Nat.reduceAdd, Nat.reduceEqDiff, false_and, and_false, exists_const, exists_eq_left, exists_eq_left', exists_and_left, and_assoc, nltL, nltR, nleL, nleR, neqL, neqR, naL, naR, nmL, nmR, nI_ltI, nI_leI, nI_eq, nI_add, nI_mul, nI_clamp, n0l, n0r, nm1, nm1', nm1l, nm1r, nm1g, nsL, nI_m1, Nat.add_sub_cancel, vpn, vpL, nclL, le32, leLL, leLN, leNL, leNN, inA, nb0, nb1, gi_wi_n, gi_wi_e, gi_rw_n, gi_rw_e, aWi_rw, ifl, ifl_, ifle, ifle_, ifq, ifq_, ifnq, ifnq_, ifnl, ifnl_, ifnle, ifnle_, z399 ok]
        refine m_putE ed (by omega) (fun h4 a4 ed4 => ?_)
        have ok := ed4.1
        simp (disch := omega) only [s182_27, s182_28, s182_30, s182_31, s182_34, s182_35, s182_35i, s182_36, s182_39, s182_40, s182_41, s182_44, s182_47, s182_48, s182_50, s182_53, s182_54, s182_57, s182_58, s182_61, s182_62, s182_65, s182_66, s182_69, s182_70, s182_72, s182_75, s182_78, s182_79, s182_82, s182_83, s182_86, s182_87, s182_90, s182_91, s182_94, true_or, or_true, or_false, false_or, or_self, Int32.reduceLT, Int32.reduceLE, Nat.add_zero, Nat.zero_add, Nat.not_lt_zero, not_false_eq_true, not_true_eq_false, and_assoc, kl_q, kl_i, kl_r, kl_n, kl_0, kl_l, cs_0, cs_i, cs_r, cs_n, cs_l, aRf_s, aRf_n, gi_wl, gi_wr, gl_wi, gl_wl, gl_wr, gr_wi, gr_wl, gr_wr, sh_wi, sh_wl, sh_wr, gl_cp, gr_cp, sh_cp, gl_rw, gr_rw, sh_rw, gi_rl, gr_rl, sh_rl, Option.toList_some, Option.toList_none, List.nil_append, List.cons_append, List.append_nil, Option.some.injEq, Prod.mk.injEq, and_true, true_and, and_self, if_true, if_false, reduceCtorEq, Nat.reduceLeDiff, Nat.reduceLT, Nat.reduceAdd, Nat.reduceEqDiff, false_and, and_false, exists_const, exists_eq_left, exists_eq_left', exists_and_left, and_assoc, nltL, nltR, nleL, nleR, neqL, neqR, naL, naR, nmL, nmR, nI_ltI, nI_leI, nI_eq, nI_add, nI_mul, nI_clamp, n0l, n0r, nm1, nm1', nm1l, nm1r, nm1g, nsL, nI_m1, Nat.add_sub_cancel, vpn, vpL, nclL, le32, leLL, leLN, leNL, leNN, inA, nb0, nb1, gi_wi_n, gi_wi_e, gi_rw_n, gi_rw_e, aWi_rw, ifl, ifl_, ifle, ifle_, ifq, ifq_, ifnq, ifnq_, ifnl, ifnl_, ifnle, ifnle_, z399 ok]
        refine hq _ (((b2.trans a3).trans a4).trans ((Ag.refl ok).wi (Or.inl ⟨rfl, Or.inr (Or.inr rfl)⟩))) (EdM.mono (ed4.wi (Or.inr rfl)) ?_)
        show _ ≤ 250 + 10 * (7 - e) + 4
        omega
      · have ps := pr_pos _ _ _ _ _ e1 (by omega)
        unfold PosR ltM at ps
        simp at ps
        cases h5
        refine i9 (e + 1) (sk B T p + 1) _ ts sl _ (d + 11) _ e1 (by omega) (by omega) (by omega) rc2 (fun h3 a3 rc3 => ?_)
        have rc3 : RdM h3 B T p1 (ts ++ t1) sl (e + 1) := rc3
        have ok := rc3.ok
        have l3 : (ts ++ t1).length < 520 := by
          rw [List.length_append]
          omega
        simp (disch := omega) only [s182_27, s182_28, s182_30, s182_31, s182_34, s182_35, s182_35i, s182_36, s182_39, s182_40, s182_41, s182_44, s182_47, s182_48, s182_50, s182_53, s182_54, s182_57, s182_58, s182_61, s182_62, s182_65, s182_66, s182_69, s182_70, s182_72, s182_75, s182_78, s182_79, s182_82, s182_83, s182_86, s182_87, s182_90, s182_91, s182_94, true_or, or_true, or_false, false_or, or_self, Int32.reduceLT, Int32.reduceLE, Nat.add_zero, Nat.zero_add, Nat.not_lt_zero, not_false_eq_true, not_true_eq_false, and_assoc, kl_q, kl_i, kl_r, kl_n, kl_0, kl_l, cs_0, cs_i, cs_r, cs_n, cs_l, aRf_s, aRf_n, gi_wl, gi_wr, gl_wi, gl_wl, gl_wr, gr_wi, gr_wl, gr_wr, sh_wi, sh_wl, sh_wr, gl_cp, gr_cp, sh_cp, gl_rw, gr_rw, sh_rw, gi_rl, gr_rl, sh_rl, Option.toList_some, Option.toList_none, List.nil_append, List.cons_append, List.append_nil, Option.some.injEq, Prod.mk.injEq, and_true, true_and, and_self, if_true, if_false, reduceCtorEq, Nat.reduceLeDiff, Nat.reduceLT, Nat.reduceAdd, Nat.reduceEqDiff, false_and, and_false, exists_const, exists_eq_left, exists_eq_left', exists_and_left, and_assoc, nltL, nltR, nleL, nleR, neqL, neqR, naL, naR, nmL, nmR, nI_ltI, nI_leI, nI_eq, nI_add, nI_mul, nI_clamp, n0l, n0r, nm1, nm1', nm1l, nm1r, nm1g, nsL, nI_m1, Nat.add_sub_cancel, vpn, vpL, nclL, le32, leLL, leLN, leNL, leNN, inA, nb0, nb1, gi_wi_n, gi_wi_e, gi_rw_n, gi_rw_e, aWi_rw, ifl, ifl_, ifle, ifle_, ifq, ifq_, ifnq, ifnq_, ifnl, ifnl_, ifnle, ifnle_, z399 ok]
        refine m_put (c := 9) (v := 0) rc3 l3 (fun h4 a4 rc4 => ?_)
        have ok := rc4.ok
        have d4 := rc4.2.2.2.1
        simp (disch := omega) only [s182_27, s182_28, s182_30, s182_31, s182_34, s182_35, s182_35i, s182_36, s182_39, s182_40, s182_41, s182_44, s182_47, s182_48, s182_50, s182_53, s182_54, s182_57, s182_58, s182_61, s182_62, s182_65, s182_66, s182_69, s182_70, s182_72, s182_75, s182_78, s182_79, s182_82, s182_83, s182_86, s182_87, s182_90, s182_91, s182_94, true_or, or_true, or_false, false_or, or_self, Int32.reduceLT, Int32.reduceLE, Nat.add_zero, Nat.zero_add, Nat.not_lt_zero, not_false_eq_true, not_true_eq_false, and_assoc, kl_q, kl_i, kl_r, kl_n, kl_0, kl_l, cs_0, cs_i, cs_r, cs_n, cs_l, aRf_s, aRf_n, gi_wl, gi_wr, gl_wi, gl_wl, gl_wr, gr_wi, gr_wl, gr_wr, sh_wi, sh_wl, sh_wr, gl_cp, gr_cp, sh_cp, gl_rw, gr_rw, sh_rw, gi_rl, gr_rl, sh_rl, Option.toList_some, Option.toList_none, List.nil_append, List.cons_append, List.append_nil, Option.some.injEq, Prod.mk.injEq, and_true, true_and, and_self, if_true, if_false, reduceCtorEq, Nat.reduceLeDiff, Nat.reduceLT, Nat.reduceAdd, Nat.reduceEqDiff, false_and, and_false, exists_const, exists_eq_left, exists_eq_left', exists_and_left, and_assoc, nltL, nltR, nleL, nleR, neqL, neqR, naL, naR, nmL, nmR, nI_ltI, nI_leI, nI_eq, nI_add, nI_mul, nI_clamp, n0l, n0r, nm1, nm1', nm1l, nm1r, nm1g, nsL, nI_m1, Nat.add_sub_cancel, vpn, vpL, nclL, le32, leLL, leLN, leNL, leNN, inA, nb0, nb1, gi_wi_n, gi_wi_e, gi_rw_n, gi_rw_e, aWi_rw, ifl, ifl_, ifle, ifle_, ifq, ifq_, ifnq, ifnq_, ifnl, ifnl_, ifnle, ifnle_, z399 ok, d4]
        refine hq _ (((b2.trans a3).trans a4).trans ((Ag.refl ok).wi (Or.inl ⟨rfl, Or.inr (Or.inr rfl)⟩))) ?_
        rw [List.append_assoc] at rc4
        exact rc4.dp ((Ag.refl ok).wi ⟨rfl, Or.inr rfl⟩) (by rw [gi_wi_n (by omega), rc4.2.1]) gi_wi_e
    · rw [if_neg he6] at hr
      cases hr
      have e6 : e = 6 := by omega
      obtain ⟨ed, ae⟩ := full e6
      have w3 := ed.n1 (by omega)
      subst e6
      simp (disch := omega) only [s182_4, s182_5, s182_6, s182_8, s182_11, s182_12, s174_0, s174_1, s174_4, s174_6, s174_9, s174_10, s174_13, s174_14, s174_14i, s174_15, s174_18, s174_19, s174_20, s174_23, s174_24, s174_24i, s174_25, s174_28, s174_29, s174_30, s174_33, true_or, or_true, or_false, false_or, or_self, Int32.reduceLT, Int32.reduceLE, Nat.add_zero, Nat.zero_add, Nat.not_lt_zero, not_false_eq_true, not_true_eq_false, and_assoc, kl_q, kl_i, kl_r, kl_n, kl_0, kl_l, cs_0, cs_i, cs_r, cs_n, cs_l, aRf_s, aRf_n, gi_wl, gi_wr, gl_wi, gl_wl, gl_wr, gr_wi, gr_wl, gr_wr, sh_wi, sh_wl, sh_wr, gl_cp, gr_cp, sh_cp, gl_rw, gr_rw, sh_rw, gi_rl, gr_rl, sh_rl, Option.toList_some, Option.toList_none, List.nil_append, List.cons_append, List.append_nil, Option.some.injEq, Prod.mk.injEq, and_true, true_and, and_self, if_true, if_false, reduceCtorEq, Nat.reduceLeDiff, Nat.reduceLT, Nat.reduceAdd, Nat.reduceEqDiff, false_and, and_false, exists_const, exists_eq_left, exists_eq_left', exists_and_left, and_assoc, nltL, nltR, nleL, nleR, neqL, neqR, naL, naR, nmL, nmR, nI_ltI, nI_leI, nI_eq, nI_add, nI_mul, nI_clamp, n0l, n0r, nm1, nm1', nm1l, nm1r, nm1g, nsL, nI_m1, Nat.add_sub_cancel, vpn, vpL, nclL, le32, leLL, leLN, leNL, leNN, inA, nb0, nb1, gi_wi_n, gi_wi_e, gi_rw_n, gi_rw_e, aWi_rw, ifl, ifl_, ifle, ifle_, ifq, ifq_, ifnq, ifnq_, ifnl, ifnl_, ifnle, ifnle_, z399 ok, d1, m_bad ok f1 w1, f1]
      obtain ⟨h2, eh2⟩ : ∃ h2, h2 = aWi (aWi (aWi h1 399 4 (nI (sk B T p))) 399 5 (nI (6 + 1))) 399 3 (nI (sk B T p + 1)) := ⟨_, rfl⟩
      have eh2' : h2 = aWi (aWi (aWi h1 399 4 (nI (sk B T p))) 399 5 (nI 7)) 399 3 (nI (sk B T p + 1)) := eh2
      rw [← eh2] at ed ae w3
      rw [← eh2']
      have ok := ed.1
      simp (disch := omega) only [s182_15, s182_16, s182_19, s182_20, s182_23, s182_24, s182_27, s182_28, s182_30, s182_31, s182_34, s182_35, s182_35i, s182_36, s182_39, s182_40, s182_41, s182_44, s182_47, s182_48, s182_50, s182_53, s182_54, s182_57, s182_58, s182_61, s182_62, s182_65, s182_66, s182_69, s182_70, s182_72, s182_75, s182_78, s182_79, s182_82, s182_83, s182_86, s182_87, s182_90, s182_91, s182_94, true_or, or_true, or_false, false_or, or_self, Int32.reduceLT, Int32.reduceLE, Nat.add_zero, Nat.zero_add, Nat.not_lt_zero, not_false_eq_true, not_true_eq_false, and_assoc, kl_q, kl_i, kl_r, kl_n, kl_0, kl_l, cs_0, cs_i, cs_r, cs_n, cs_l, aRf_s, aRf_n, gi_wl, gi_wr, gl_wi, gl_wl, gl_wr, gr_wi, gr_wl, gr_wr, sh_wi, sh_wl, sh_wr, gl_cp, gr_cp, sh_cp, gl_rw, gr_rw, sh_rw, gi_rl, gr_rl, sh_rl, Option.toList_some, Option.toList_none, List.nil_append, List.cons_append, List.append_nil, Option.some.injEq, Prod.mk.injEq, and_true, true_and, and_self, if_true, if_false, reduceCtorEq, Nat.reduceLeDiff, Nat.reduceLT, Nat.reduceAdd, Nat.reduceEqDiff, false_and, and_false, exists_const, exists_eq_left, exists_eq_left', exists_and_left, and_assoc, nltL, nltR, nleL, nleR, neqL, neqR, naL, naR, nmL, nmR, nI_ltI, nI_leI, nI_eq, nI_add, nI_mul, nI_clamp, n0l, n0r, nm1, nm1', nm1l, nm1r, nm1g, nsL, nI_m1, Nat.add_sub_cancel, vpn, vpL, nclL, le32, leLL, leLN, leNL, leNN, inA, nb0, nb1, gi_wi_n, gi_wi_e, gi_rw_n, gi_rw_e, aWi_rw, ifl, ifl_, ifle, ifle_, ifq, ifq_, ifnq, ifnq_, ifnl, ifnl_, ifnle, ifnle_, z399 ok, w3]
      exact hq h2 ae ed
  · rw [if_neg b33] at hr
    have n33 : ¬ lkI B T (sk B T p) = 33 := fun q => b33 (l33.mp q)
    by_cases b40 : sgB B T (sk B T p) = 40
    · rw [if_pos b40] at hr
      have hq1 := sg_lt (by omega) b40
      have f40 := l40.mpr b40
      rw [f40]
      by_cases he6 : e < 6
      · rw [if_pos he6] at hr
        have e6 : ¬ e = 6 := by omega
        simp (disch := omega) only [s182_4, s182_5, s182_6, s182_8, s182_11, s182_12, s182_15, s182_16, s182_19, s182_20, s182_23, s182_24, s182_27, s182_28, s182_30, s182_31, s182_34, s182_35, s182_35i, s182_36, s182_39, s182_40, s182_41, s182_44, s182_47, s182_48, s182_50, s182_53, s182_54, s174_0, s174_1, s174_4, s174_6, s174_9, s174_10, s174_13, s174_14, s174_14i, s174_15, s174_18, s174_19, s174_20, s174_23, s174_24, s174_24i, s174_25, s174_28, s174_29, s174_30, s174_33, true_or, or_true, or_false, false_or, or_self, Int32.reduceLT, Int32.reduceLE, Nat.add_zero, Nat.zero_add, Nat.not_lt_zero, not_false_eq_true, not_true_eq_false, and_assoc, kl_q, kl_i, kl_r, kl_n, kl_0, kl_l, cs_0, cs_i, cs_r, cs_n, cs_l, aRf_s, aRf_n, gi_wl, gi_wr, gl_wi, gl_wl, gl_wr, gr_wi, gr_wl, gr_wr, sh_wi, sh_wl, sh_wr, gl_cp, gr_cp, sh_cp, gl_rw, gr_rw, sh_rw, gi_rl, gr_rl, sh_rl, Option.toList_some, Option.toList_none, List.nil_append, List.cons_append, List.append_nil, Option.some.injEq, Prod.mk.injEq, and_true, true_and, and_self, if_true, if_false, reduceCtorEq, Nat.reduceLeDiff, Nat.reduceLT, Nat.reduceAdd, Nat.reduceEqDiff, false_and, and_false, exists_const, exists_eq_left, exists_eq_left', exists_and_left, and_assoc, nltL, nltR, nleL, nleR, neqL, neqR, naL, naR, nmL, nmR, nI_ltI, nI_leI, nI_eq, nI_add, nI_mul, nI_clamp, n0l, n0r, nm1, nm1', nm1l, nm1r, nm1g, nsL, nI_m1, Nat.add_sub_cancel, vpn, vpL, nclL, le32, leLL, leLN, leNL, leNN, inA, nb0, nb1, gi_wi_n, gi_wi_e, gi_rw_n, gi_rw_e, aWi_rw, ifl, ifl_, ifle, ifle_, ifq, ifq_, ifnq, ifnq_, ifnl, ifnl_, ifnle, ifnle_, z399 ok, d1, e6, f1]
        obtain ⟨h2, eh2⟩ : ∃ h2, h2 = aWi (aWi h1 399 5 (nI (e + 1))) 399 3 (nI (sk B T p + 1)) := ⟨_, rfl⟩
        rw [← eh2] at rc2 b2 ⊢
        have ok := rc2.ok
        have w2 := rc2.2.2.1
        simp (disch := omega) only [s182_57, s182_58, s182_61, s182_62, s182_65, s182_66, true_or, or_true, or_false, false_or, or_self, Int32.reduceLT, Int32.reduceLE, Nat.add_zero, Nat.zero_add, Nat.not_lt_zero, not_false_eq_true, not_true_eq_false, and_assoc, kl_q, kl_i, kl_r, kl_n, kl_0, kl_l, cs_0, cs_i, cs_r, cs_n, cs_l, aRf_s, aRf_n, gi_wl, gi_wr, gl_wi, gl_wl, gl_wr, gr_wi, gr_wl, gr_wr, sh_wi, sh_wl, sh_wr, gl_cp, gr_cp, sh_cp, gl_rw, gr_rw, sh_rw, gi_rl, gr_rl, sh_rl, Option.toList_some, Option.toList_none, List.nil_append, List.cons_append, List.append_nil, Option.some.injEq, Prod.mk.injEq, and_true, true_and, and_self, if_true, if_false, reduceCtorEq, Nat.reduceLeDiff, Nat.reduceLT, Nat.reduceAdd, Nat.reduceEqDiff, false_and, and_false, exists_const, exists_eq_left, exists_eq_left', exists_and_left, and_assoc, nltL, nltR, nleL, nleR, neqL, neqR, naL, naR, nmL, nmR, nI_ltI, nI_leI, nI_eq, nI_add, nI_mul, nI_clamp, n0l, n0r, nm1, nm1', nm1l, nm1r, nm1g, nsL, nI_m1, Nat.add_sub_cancel, vpn, vpL, nclL, le32, leLL, leLN, leNL, leNN, inA, nb0, nb1, gi_wi_n, gi_wi_e, gi_rw_n, gi_rw_e, aWi_rw, ifl, ifl_, ifle, ifle_, ifq, ifq_, ifnq, ifnq_, ifnl, ifnl_, ifnle, ifnle_, z399 ok, w2]
        rw [show d + 12 * (7 - e) + 8 = (d + 8) + 12 * (7 - (e + 1)) + 12 by omega]
        rcases bnd_of hr with ⟨q1, e1, rfl⟩ | ⟨p1, t1, e1, h5⟩
        · have ps := pr_pos _ _ _ _ _ e1 (by omega)
          unfold PosR at ps
          simp only at ps
          refine i5 (e + 1) (sk B T p + 1) _ ts sl _ (d + 8) _ e1 (by omega) (by omega) (by omega) rc2 (fun h3 a3 ed => ?_)
          have ed : EdM h3 sl q1 (250 + 10 * (7 - (e + 1)) + 6) := ed
          have ok := ed.1
          have w3 := ed.n1 (by omega)
          simp (disch := omega) only [s182_69, s182_70, s182_72, s182_75, s182_78, s182_79, s182_82, s182_83, s182_86, s182_87, s182_90, s182_91, s182_94, s175_0, s175_1, s175_4, s175_5, s175_8, s175_9, s175_12, s175_13, s175_16, s175_17, s175_20, s175_21, s175_21i, s175_22, s175_25, s175_26, s175_27, s175_30, s175_31, s175_31i, s175_32, s175_35, s175_36, s175_37, s175_40, true_or, or_true, or_false, false_or, or_self, Int32.reduceLT, Int32.reduceLE, Nat.add_zero, Nat.zero_add, Nat.not_lt_zero, not_false_eq_true, not_true_eq_false, and_assoc, kl_q, kl_i, kl_r, kl_n, kl_0, kl_l, cs_0, cs_i, cs_r, cs_n, cs_l, aRf_s, aRf_n, gi_wl, gi_wr, gl_wi, gl_wl, gl_wr, gr_wi, gr_wl, gr_wr, sh_wi, sh_wl, sh_wr, gl_cp, gr_cp, sh_cp, gl_rw, gr_rw, sh_rw, gi_rl, gr_rl, sh_rl, Option.toList_some, Option.toList_none, List.nil_append, List.cons_append, List.append_nil, Option.some.injEq, Prod.mk.injEq, and_true, true_and, and_self, if_true, if_false, reduceCtorEq, Nat.reduceLeDiff, Nat.reduceLT, Nat.reduceAdd, Nat.reduceEqDiff, false_and, and_false, exists_const, exists_eq_left, exists_eq_left', exists_and_left, and_assoc, nltL, nltR, nleL, nleR, neqL, neqR, naL, naR, nmL, nmR, nI_ltI, nI_leI, nI_eq, nI_add, nI_mul, nI_clamp, n0l, n0r, nm1, nm1', nm1l, nm1r, nm1g, nsL, nI_m1, Nat.add_sub_cancel, vpn, vpL, nclL, le32, leLL, leLN, leNL, leNN, inA, nb0, nb1, gi_wi_n, gi_wi_e, gi_rw_n, gi_rw_e, aWi_rw, ifl, ifl_, ifle, ifle_, ifq, ifq_, ifnq, ifnq_, ifnl, ifnl_, ifnle, ifnle_, z399 ok, w3]
          refine hq _ ((b2.trans a3).trans (((Ag.refl ok).wi (ml3 ⟨rfl, rfl⟩)).wi (Or.inl ⟨rfl, Or.inr (Or.inr rfl)⟩))) (EdM.mono ((ed.wi (Or.inl rfl)).wi (Or.inr rfl)) ?_)
          show _ ≤ 250 + 10 * (7 - e) + 4
          omega
        · have ps := pr_pos _ _ _ _ _ e1 (by omega)
          unfold PosR at ps
          simp only at ps
          refine i5 (e + 1) (sk B T p + 1) _ ts sl _ (d + 8) _ e1 (by omega) (by omega) (by omega) rc2 (fun h3 a3 rc3 => ?_)
          have rc3 : RdM h3 B T p1 (ts ++ t1) sl (e + 1) := rc3
          have ok := rc3.ok
          have w3 := rc3.2.2.1
          have l3 : (ts ++ t1).length ≤ 240 := by
            rw [List.length_append]
            omega
          have hs3 := sk_le (B := B) ps.2.1
          have l93 := lk_sg (q := sk B T p1) hbb (b := 41) (by omega) (by omega)
          rw [show nI 41 = (41 : Int32) from rfl] at l93
          simp (disch := omega) only [s182_69, s182_70, s182_72, s182_75, s182_78, s182_79, s182_82, s182_83, s182_86, s182_87, s182_90, s182_91, s182_94, s175_0, s175_1, s175_4, s175_5, s175_8, s175_9, s175_12, s175_13, s175_16, s175_17, s175_20, s175_21, s175_21i, s175_22, s175_25, s175_26, s175_27, s175_30, s175_31, s175_31i, s175_32, s175_35, s175_36, s175_37, s175_40, true_or, or_true, or_false, false_or, or_self, Int32.reduceLT, Int32.reduceLE, Nat.add_zero, Nat.zero_add, Nat.not_lt_zero, not_false_eq_true, not_true_eq_false, and_assoc, kl_q, kl_i, kl_r, kl_n, kl_0, kl_l, cs_0, cs_i, cs_r, cs_n, cs_l, aRf_s, aRf_n, gi_wl, gi_wr, gl_wi, gl_wl, gl_wr, gr_wi, gr_wl, gr_wr, sh_wi, sh_wl, sh_wr, gl_cp, gr_cp, sh_cp, gl_rw, gr_rw, sh_rw, gi_rl, gr_rl, sh_rl, Option.toList_some, Option.toList_none, List.nil_append, List.cons_append, List.append_nil, Option.some.injEq, Prod.mk.injEq, and_true, true_and, and_self, if_true, if_false, reduceCtorEq, Nat.reduceLeDiff, Nat.reduceLT, Nat.reduceAdd, Nat.reduceEqDiff, false_and, and_false, exists_const, exists_eq_left, exists_eq_left', exists_and_left, and_assoc, nltL, nltR, nleL, nleR, neqL, neqR, naL, naR, nmL, nmR, nI_ltI, nI_leI, nI_eq, nI_add, nI_mul, nI_clamp, n0l, n0r, nm1, nm1', nm1l, nm1r, nm1g, nsL, nI_m1, Nat.add_sub_cancel, vpn, vpL, nclL, le32, leLL, leLN, leNL, leNN, inA, nb0, nb1, gi_wi_n, gi_wi_e, gi_rw_n, gi_rw_e, aWi_rw, ifl, ifl_, ifle, ifle_, ifq, ifq_, ifnq, ifnq_, ifnl, ifnl_, ifnle, ifnle_, z399 ok, w3]
          refine m_lookM rc3.1 ps.2.1 rc3.2.1 (fun h4 a4 f4 => ?_)
          have rc4 := rc3.at a4 f4
          have ok := rc4.ok
          have b4 := (b2.trans a3).trans (a4.mono (fun a k z => ml3 (sl := sl) z))
          have d4 := rc4.2.2.2.1
          by_cases b93 : sgB B T (sk B T p1) = 41
          · rw [if_pos b93] at h5
            cases h5
            have f93 := l93.mpr b93
            simp (disch := omega) only [s182_69, s182_70, s182_72, s182_75, s182_78, s182_79, s182_82, s182_83, s182_86, s182_87, s182_90, s182_91, s182_94, s175_0, s175_1, s175_4, s175_5, s175_8, s175_9, s175_12, s175_13, s175_16, s175_17, s175_20, s175_21, s175_21i, s175_22, s175_25, s175_26, s175_27, s175_30, s175_31, s175_31i, s175_32, s175_35, s175_36, s175_37, s175_40, true_or, or_true, or_false, false_or, or_self, Int32.reduceLT, Int32.reduceLE, Nat.add_zero, Nat.zero_add, Nat.not_lt_zero, not_false_eq_true, not_true_eq_false, and_assoc, kl_q, kl_i, kl_r, kl_n, kl_0, kl_l, cs_0, cs_i, cs_r, cs_n, cs_l, aRf_s, aRf_n, gi_wl, gi_wr, gl_wi, gl_wl, gl_wr, gr_wi, gr_wl, gr_wr, sh_wi, sh_wl, sh_wr, gl_cp, gr_cp, sh_cp, gl_rw, gr_rw, sh_rw, gi_rl, gr_rl, sh_rl, Option.toList_some, Option.toList_none, List.nil_append, List.cons_append, List.append_nil, Option.some.injEq, Prod.mk.injEq, and_true, true_and, and_self, if_true, if_false, reduceCtorEq, Nat.reduceLeDiff, Nat.reduceLT, Nat.reduceAdd, Nat.reduceEqDiff, false_and, and_false, exists_const, exists_eq_left, exists_eq_left', exists_and_left, and_assoc, nltL, nltR, nleL, nleR, neqL, neqR, naL, naR, nmL, nmR, nI_ltI, nI_leI, nI_eq, nI_add, nI_mul, nI_clamp, n0l, n0r, nm1, nm1', nm1l, nm1r, nm1g, nsL, nI_m1, Nat.add_sub_cancel, vpn, vpL, nclL, le32, leLL, leLN, leNL, leNN, inA, nb0, nb1, gi_wi_n, gi_wi_e, gi_rw_n, gi_rw_e, aWi_rw, ifl, ifl_, ifle, ifle_, ifq, ifq_, ifnq, ifnq_, ifnl, ifnl_, ifnle, ifnle_, z399 ok, f93, f4, d4]
            refine hq _ (b4.trans (((Ag.refl ok).wi (ml3 ⟨rfl, rfl⟩)).wi (Or.inl ⟨rfl, Or.inr (Or.inr rfl)⟩))) ?_
            exact rc4.dp (((Ag.refl ok).wi ⟨rfl, Or.inl rfl⟩).wi ⟨rfl, Or.inr rfl⟩) (by rw [gi_wi_n (by omega), gi_wi_e]) gi_wi_e
          · rw [if_neg b93] at h5
            cases h5
            have f93 : ¬ lkI B T (sk B T p1) = 41 := fun q => b93 (l93.mp q)
            simp (disch := omega) only [s182_69, s182_70, s182_72, s182_75, s182_78, s182_79, s182_82, s182_83, s182_86, s182_87, s182_90, s182_91, s182_94, s175_0, s175_1, s175_4, s175_5, s175_8, s175_9, s175_12, s175_13, s175_16, s175_17, s175_20, s175_21, s175_21i, s175_22, s175_25, s175_26, s175_27, s175_30, s175_31, s175_31i, s175_32, s175_35, s175_36, s175_37, s175_40, true_or, or_true, or_false, false_or, or_self, Int32.reduceLT, Int32.reduceLE, Nat.add_zero, Nat.zero_add, Nat.not_lt_zero, not_false_eq_true, not_true_eq_false, and_assoc, kl_q, kl_i, kl_r, kl_n, kl_0, kl_l, cs_0, cs_i, cs_r, cs_n, cs_l, aRf_s, aRf_n, gi_wl, gi_wr, gl_wi, gl_wl, gl_wr, gr_wi, gr_wl, gr_wr, sh_wi, sh_wl, sh_wr, gl_cp, gr_cp, sh_cp, gl_rw, gr_rw, sh_rw, gi_rl, gr_rl, sh_rl, Option.toList_some, Option.toList_none, List.nil_append, List.cons_append, List.append_nil, Option.some.injEq, Prod.mk.injEq, and_true, true_and, and_self, if_true, if_false, reduceCtorEq, Nat.reduceLeDiff, Nat.reduceLT, Nat.reduceAdd, Nat.reduceEqDiff, false_and, and_false, exists_const, exists_eq_left, exists_eq_left', exists_and_left, and_assoc, nltL, nltR, nleL, nleR, neqL, neqR, naL, naR, nmL, nmR, nI_ltI, nI_leI, nI_eq, nI_add, nI_mul, nI_clamp, n0l, n0r, nm1, nm1', nm1l, nm1r, nm1g, nsL, nI_m1, Nat.add_sub_cancel, vpn, vpL, nclL, le32, leLL, leLN, leNL, leNN, inA, nb0, nb1, gi_wi_n, gi_wi_e, gi_rw_n, gi_rw_e, aWi_rw, ifl, ifl_, ifle, ifle_, ifq, ifq_, ifnq, ifnq_, ifnl, ifnl_, ifnle, ifnle_, z399 ok, f93, m_bad ok f4 rc4.2.2.1, f4, d4]
            obtain ⟨ed, ae⟩ := rc4.bad (J := 240) l3
            refine hq _ ((b4.trans ae).trans (((Ag.refl ed.1).wi (ml3 ⟨rfl, rfl⟩)).wi (Or.inl ⟨rfl, Or.inr (Or.inr rfl)⟩))) (EdM.mono ((ed.wi (Or.inl rfl)).wi (Or.inr rfl)) ?_)
            show _ ≤ 250 + 10 * (7 - e) + 4
            omega
      · rw [if_neg he6] at hr
        cases hr
        have e6 : e = 6 := by omega
        obtain ⟨ed, ae⟩ := full e6
        have w3 := ed.n1 (by omega)
        subst e6
        simp (disch := omega) only [s182_4, s182_5, s182_6, s182_8, s182_11, s182_12, s182_15, s182_16, s182_19, s182_20, s182_23, s182_24, s182_27, s182_28, s182_30, s182_31, s182_34, s182_35, s182_35i, s182_36, s182_39, s182_40, s182_41, s182_44, s182_47, s182_48, s182_50, s182_53, s182_54, s174_0, s174_1, s174_4, s174_6, s174_9, s174_10, s174_13, s174_14, s174_14i, s174_15, s174_18, s174_19, s174_20, s174_23, s174_24, s174_24i, s174_25, s174_28, s174_29, s174_30, s174_33, true_or, or_true, or_false, false_or, or_self, Int32.reduceLT, Int32.reduceLE, Nat.add_zero, Nat.zero_add, Nat.not_lt_zero, not_false_eq_true, not_true_eq_false, and_assoc, kl_q, kl_i, kl_r, kl_n, kl_0, kl_l, cs_0, cs_i, cs_r, cs_n, cs_l, aRf_s, aRf_n, gi_wl, gi_wr, gl_wi, gl_wl, gl_wr, gr_wi, gr_wl, gr_wr, sh_wi, sh_wl, sh_wr, gl_cp, gr_cp, sh_cp, gl_rw, gr_rw, sh_rw, gi_rl, gr_rl, sh_rl, Option.toList_some, Option.toList_none, List.nil_append, List.cons_append, List.append_nil, Option.some.injEq, Prod.mk.injEq, and_true, true_and, and_self, if_true, if_false, reduceCtorEq, Nat.reduceLeDiff, Nat.reduceLT, Nat.reduceAdd, Nat.reduceEqDiff, false_and, and_false, exists_const, exists_eq_left, exists_eq_left', exists_and_left, and_assoc, nltL, nltR, nleL, nleR, neqL, neqR, naL, naR, nmL, nmR, nI_ltI, nI_leI, nI_eq, nI_add, nI_mul, nI_clamp, n0l, n0r, nm1, nm1', nm1l, nm1r, nm1g, nsL, nI_m1, Nat.add_sub_cancel, vpn, vpL, nclL, le32, leLL, leLN, leNL, leNN, inA, nb0, nb1, gi_wi_n, gi_wi_e, gi_rw_n, gi_rw_e, aWi_rw, ifl, ifl_, ifle, ifle_, ifq, ifq_, ifnq, ifnq_, ifnl, ifnl_, ifnle, ifnle_, z399 ok, d1, m_bad ok f1 w1, f1]
        obtain ⟨h2, eh2⟩ : ∃ h2, h2 = aWi (aWi (aWi h1 399 4 (nI (sk B T p))) 399 5 (nI (6 + 1))) 399 3 (nI (sk B T p + 1)) := ⟨_, rfl⟩
        have eh2' : h2 = aWi (aWi (aWi h1 399 4 (nI (sk B T p))) 399 5 (nI 7)) 399 3 (nI (sk B T p + 1)) := eh2
        rw [← eh2] at ed ae w3
        rw [← eh2']
        have ok := ed.1
        simp (disch := omega) only [s182_57, s182_58, s182_61, s182_62, s182_65, s182_66, s182_69, s182_70, s182_72, s182_75, s182_78, s182_79, s182_82, s182_83, s182_86, s182_87, s182_90, s182_91, s182_94, true_or, or_true, or_false, false_or, or_self, Int32.reduceLT, Int32.reduceLE, Nat.add_zero, Nat.zero_add, Nat.not_lt_zero, not_false_eq_true, not_true_eq_false, and_assoc, kl_q, kl_i, kl_r, kl_n, kl_0, kl_l, cs_0, cs_i, cs_r, cs_n, cs_l, aRf_s, aRf_n, gi_wl, gi_wr, gl_wi, gl_wl, gl_wr, gr_wi, gr_wl, gr_wr, sh_wi, sh_wl, sh_wr, gl_cp, gr_cp, sh_cp, gl_rw, gr_rw, sh_rw, gi_rl, gr_rl, sh_rl, Option.toList_some, Option.toList_none, List.nil_append, List.cons_append, List.append_nil, Option.some.injEq, Prod.mk.injEq, and_true, true_and, and_self, if_true, if_false, reduceCtorEq, Nat.reduceLeDiff, Nat.reduceLT, Nat.reduceAdd, Nat.reduceEqDiff, false_and, and_false, exists_const, exists_eq_left, exists_eq_left', exists_and_left, and_assoc, nltL, nltR, nleL, nleR, neqL, neqR, naL, naR, nmL, nmR, nI_ltI, nI_leI, nI_eq, nI_add, nI_mul, nI_clamp, n0l, n0r, nm1, nm1', nm1l, nm1r, nm1g, nsL, nI_m1, Nat.add_sub_cancel, vpn, vpL, nclL, le32, leLL, leLN, leNL, leNN, inA, nb0, nb1, gi_wi_n, gi_wi_e, gi_rw_n, gi_rw_e, aWi_rw, ifl, ifl_, ifle, ifle_, ifq, ifq_, ifnq, ifnq_, ifnl, ifnl_, ifnle, ifnle_, z399 ok, w3]
        exact hq h2 ae ed
    · rw [if_neg b40] at hr
      have n40 : ¬ lkI B T (sk B T p) = 40 := fun q => b40 (l40.mp q)
      simp (disch := omega) only [s182_4, s182_5, s182_6, s182_8, s182_11, s182_12, s182_15, s182_16, s182_19, s182_20, s182_23, s182_24, s182_27, s182_28, s182_30, s182_31, s182_34, s182_35, s182_35i, s182_36, s182_39, s182_40, s182_41, s182_44, s182_47, s182_48, s182_50, s182_53, s182_54, s182_57, s182_58, s182_61, s182_62, s182_65, s182_66, s182_69, s182_70, s182_72, s182_75, s182_78, s182_79, true_or, or_true, or_false, false_or, or_self, Int32.reduceLT, Int32.reduceLE, Nat.add_zero, Nat.zero_add, Nat.not_lt_zero, not_false_eq_true, not_true_eq_false, and_assoc, kl_q, kl_i, kl_r, kl_n, kl_0, kl_l, cs_0, cs_i, cs_r, cs_n, cs_l, aRf_s, aRf_n, gi_wl, gi_wr, gl_wi, gl_wl, gl_wr, gr_wi, gr_wl, gr_wr, sh_wi, sh_wl, sh_wr, gl_cp, gr_cp, sh_cp, gl_rw, gr_rw, sh_rw, gi_rl, gr_rl, sh_rl, Option.toList_some, Option.toList_none, List.nil_append, List.cons_append, List.append_nil, Option.some.injEq, Prod.mk.injEq, and_true, true_and, and_self, if_true, if_false, reduceCtorEq, Nat.reduceLeDiff, Nat.reduceLT, Nat.reduceAdd, Nat.reduceEqDiff, false_and, and_false, exists_const, exists_eq_left, exists_eq_left', exists_and_left, and_assoc, nltL, nltR, nleL, nleR, neqL, neqR, naL, naR, nmL, nmR, nI_ltI, nI_leI, nI_eq, nI_add, nI_mul, nI_clamp, n0l, n0r, nm1, nm1', nm1l, nm1r, nm1g, nsL, nI_m1, Nat.add_sub_cancel, vpn, vpL, nclL, le32, leLL, leLN, leNL, leNN, inA, nb0, nb1, gi_wi_n, gi_wi_e, gi_rw_n, gi_rw_e, aWi_rw, ifl, ifl_, ifle, ifle_, ifq, ifq_, ifnq, ifnq_, ifnl, ifnl_, ifnle, ifnle_, z399 ok, n33, n40]
      rw [show d + 12 * (7 - e) + 8 = (d + 1) + 12 * (7 - e) + 7 by omega]
      rcases bnd_of hr with ⟨q1, e1, rfl⟩ | ⟨p1, t1, e1, h5⟩
      · have ps := pr_pos _ _ _ _ _ e1 hs.2
        unfold PosR at ps
        simp only at ps
        refine i0 e (sk B T p) _ ts sl _ (d + 1) _ e1 hs.2 he (by omega) rc1 (fun h3 a3 ed => ?_)
        have ed : EdM h3 sl q1 (250 + 10 * (7 - e) + 2) := ed
        have ok := ed.1
        have w3 := ed.n1 (by omega)
        simp (disch := omega) only [s182_82, s182_83, s182_86, s182_87, s182_90, s182_91, s182_94, true_or, or_true, or_false, false_or, or_self, Int32.reduceLT, Int32.reduceLE, Nat.add_zero, Nat.zero_add, Nat.not_lt_zero, not_false_eq_true, not_true_eq_false, and_assoc, kl_q, kl_i, kl_r, kl_n, kl_0, kl_l, cs_0, cs_i, cs_r, cs_n, cs_l, aRf_s, aRf_n, gi_wl, gi_wr, gl_wi, gl_wl, gl_wr, gr_wi, gr_wl, gr_wr, sh_wi, sh_wl, sh_wr, gl_cp, gr_cp, sh_cp, gl_rw, gr_rw, sh_rw, gi_rl, gr_rl, sh_rl, Option.toList_some, Option.toList_none, List.nil_append, List.cons_append, List.append_nil, Option.some.injEq, Prod.mk.injEq, and_true, true_and, and_self, if_true, if_false, reduceCtorEq, Nat.reduceLeDiff, Nat.reduceLT, Nat.reduceAdd, Nat.reduceEqDiff, false_and, and_false, exists_const, exists_eq_left, exists_eq_left', exists_and_left, and_assoc, nltL, nltR, nleL, nleR, neqL, neqR, naL, naR, nmL, nmR, nI_ltI, nI_leI, nI_eq, nI_add, nI_mul, nI_clamp, n0l, n0r, nm1, nm1', nm1l, nm1r, nm1g, nsL, nI_m1, Nat.add_sub_cancel, vpn, vpL, nclL, le32, leLL, leLN, leNL, leNN, inA, nb0, nb1, gi_wi_n, gi_wi_e, gi_rw_n, gi_rw_e, aWi_rw, ifl, ifl_, ifle, ifle_, ifq, ifq_, ifnq, ifnq_, ifnl, ifnl_, ifnle, ifnle_, z399 ok, w3]
        refine hq h3 (b1.trans a3) (EdM.mono ed ?_)
        show _ ≤ 250 + 10 * (7 - e) + 4
        omega
      · have ps := pr_pos _ _ _ _ _ e1 hs.2
        unfold PosR ltM at ps
        simp at ps
        refine i0 e (sk B T p) _ ts sl _ (d + 1) _ e1 hs.2 he (by omega) rc1 (fun h3 a3 rc3 => ?_)
        have rc3 : RdM h3 B T p1 (ts ++ t1) sl e := rc3
        have ok := rc3.ok
        have w3 := rc3.2.2.1
        have l3 : (ts ++ t1).length ≤ p1 := by
          rw [List.length_append]
          omega
        simp (disch := omega) only [s182_82, s182_83, s182_86, s182_87, s182_90, s182_91, s182_94, true_or, or_true, or_false, false_or, or_self, Int32.reduceLT, Int32.reduceLE, Nat.add_zero, Nat.zero_add, Nat.not_lt_zero, not_false_eq_true, not_true_eq_false, and_assoc, kl_q, kl_i, kl_r, kl_n, kl_0, kl_l, cs_0, cs_i, cs_r, cs_n, cs_l, aRf_s, aRf_n, gi_wl, gi_wr, gl_wi, gl_wl, gl_wr, gr_wi, gr_wl, gr_wr, sh_wi, sh_wl, sh_wr, gl_cp, gr_cp, sh_cp, gl_rw, gr_rw, sh_rw, gi_rl, gr_rl, sh_rl, Option.toList_some, Option.toList_none, List.nil_append, List.cons_append, List.append_nil, Option.some.injEq, Prod.mk.injEq, and_true, true_and, and_self, if_true, if_false, reduceCtorEq, Nat.reduceLeDiff, Nat.reduceLT, Nat.reduceAdd, Nat.reduceEqDiff, false_and, and_false, exists_const, exists_eq_left, exists_eq_left', exists_and_left, and_assoc, nltL, nltR, nleL, nleR, neqL, neqR, naL, naR, nmL, nmR, nI_ltI, nI_leI, nI_eq, nI_add, nI_mul, nI_clamp, n0l, n0r, nm1, nm1', nm1l, nm1r, nm1g, nsL, nI_m1, Nat.add_sub_cancel, vpn, vpL, nclL, le32, leLL, leLN, leNL, leNN, inA, nb0, nb1, gi_wi_n, gi_wi_e, gi_rw_n, gi_rw_e, aWi_rw, ifl, ifl_, ifle, ifle_, ifq, ifq_, ifnq, ifnq_, ifnl, ifnl_, ifnle, ifnle_, z399 ok, w3]
        rw [show d + 1 + 12 * (7 - e) + 7 = d + 12 * (7 - e) + 8 by omega]
        rcases bnd_of h5 with ⟨q2, e2, rfl⟩ | ⟨p2, t2, e2, h6⟩
        · refine i10 e p1 _ (ts ++ t1) sl _ d _ e2 ps.2.1 he l3 rc3 (fun h4 a4 ed => ?_)
          have ed : EdM h4 sl q2 (250 + 10 * (7 - e) + 3) := ed
          simp (disch := omega) only [s182_82, s182_83, s182_86, s182_87, s182_90, s182_91, s182_94, true_or, or_true, or_false, false_or, or_self, Int32.reduceLT, Int32.reduceLE, Nat.add_zero, Nat.zero_add, Nat.not_lt_zero, not_false_eq_true, not_true_eq_false, and_assoc, kl_q, kl_i, kl_r, kl_n, kl_0, kl_l, cs_0, cs_i, cs_r, cs_n, cs_l, aRf_s, aRf_n, gi_wl, gi_wr, gl_wi, gl_wl, gl_wr, gr_wi, gr_wl, gr_wr, sh_wi, sh_wl, sh_wr, gl_cp, gr_cp, sh_cp, gl_rw, gr_rw, sh_rw, gi_rl, gr_rl, sh_rl, Option.toList_some, Option.toList_none, List.nil_append, List.cons_append, List.append_nil, Option.some.injEq, Prod.mk.injEq, and_true, true_and, and_self, if_true, if_false, reduceCtorEq, Nat.reduceLeDiff, Nat.reduceLT, Nat.reduceAdd, Nat.reduceEqDiff, false_and, and_false, exists_const, exists_eq_left, exists_eq_left', exists_and_left, and_assoc]
          refine hq h4 (b1.trans (a3.trans a4)) (EdM.mono ed ?_)
          show _ ≤ 250 + 10 * (7 - e) + 4
          omega
        · cases h6
          refine i10 e p1 _ (ts ++ t1) sl _ d _ e2 ps.2.1 he l3 rc3 (fun h4 a4 rc4 => ?_)
          have rc4 : RdM h4 B T p2 (ts ++ t1 ++ t2) sl e := rc4
          simp (disch := omega) only [s182_82, s182_83, s182_86, s182_87, s182_90, s182_91, s182_94, true_or, or_true, or_false, false_or, or_self, Int32.reduceLT, Int32.reduceLE, Nat.add_zero, Nat.zero_add, Nat.not_lt_zero, not_false_eq_true, not_true_eq_false, and_assoc, kl_q, kl_i, kl_r, kl_n, kl_0, kl_l, cs_0, cs_i, cs_r, cs_n, cs_l, aRf_s, aRf_n, gi_wl, gi_wr, gl_wi, gl_wl, gl_wr, gr_wi, gr_wl, gr_wr, sh_wi, sh_wl, sh_wr, gl_cp, gr_cp, sh_cp, gl_rw, gr_rw, sh_rw, gi_rl, gr_rl, sh_rl, Option.toList_some, Option.toList_none, List.nil_append, List.cons_append, List.append_nil, Option.some.injEq, Prod.mk.injEq, and_true, true_and, and_self, if_true, if_false, reduceCtorEq, Nat.reduceLeDiff, Nat.reduceLT, Nat.reduceAdd, Nat.reduceEqDiff, false_and, and_false, exists_const, exists_eq_left, exists_eq_left', exists_and_left, and_assoc]
          refine hq h4 (b1.trans (a3.trans a4)) ?_
          rw [List.append_assoc] at rc4
          exact rc4
/-- the reference reads as the grammar says -/
theorem simM (B : Nat → Nat) (T : Nat) : ∀ n m, SimM B T n m
  | 0, m => by
    intro e p r ts sl h d Q hr
    unfold pr at hr
    cases hr
  | n + 1, m => by
    have ih := simM B T n
    have hm : (m = 7 ∨ 11 ≤ m) ∨ m = 0 ∨ m = 1 ∨ m = 2 ∨ m = 3 ∨ m = 4 ∨ m = 5 ∨ m = 6 ∨ m = 8 ∨ m = 9 ∨ m = 10 := by omega
    rcases hm with hm | rfl | rfl | rfl | rfl | rfl | rfl | rfl | rfl | rfl | rfl
    · intro e p r ts sl h d Q hr
      rw [prEN hm] at hr
      cases hr
    · exact simM0 (ih 2) (ih 1)
    · exact simM1 (ih 2) (ih 1)
    · exact simM2 (ih 4) (ih 3)
    · exact simM3 (ih 4) (ih 3)
    · exact simM4 (ih 0)
    · exact simM5 (ih 9) (ih 8) (ih 6)
    · exact simM6 (ih 9) (ih 8) (ih 6)
    · exact simM8 (ih 9) (ih 8)
    · exact simM9 (ih 0) (ih 10) (ih 9) (ih 5)
    · exact simM10 (ih 0)
end M5
