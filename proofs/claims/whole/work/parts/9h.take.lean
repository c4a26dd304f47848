-- deps: 9g.begin2
section B3
variable {d : Nat} {h : aM} {Q : Option Value → aM → Prop} {B : Nat → Nat} {T p : Nat} {s : RS}
theorem m_takeRide (rc : RcM h B T p s) (so : RsOk s) (hq : ∀ h', Ag BY h h' → BgM h' s → Q (some (.int (nI s.2.2.1.length))) h') : AW (d + 2) 204 0 [some (.ref 399), none] [] h Q := by
  have ok := rc.1.1
  have o1 := so.1
  have o2 := so.2.1
  obtain ⟨-, -, -, r4, r5, r6, r7, r8⟩ := id rc
  simp (disch := omega) only [s204_0, s204_1, s204_2, s204_5, s204_8, s204_9, s204_10, s204_13, s204_16, s204_17, true_or, or_true, or_false, false_or, or_self, Int32.reduceLT, Int32.reduceLE, Nat.add_zero, Nat.zero_add, Nat.not_lt_zero, not_false_eq_true, not_true_eq_false, and_assoc, kl_q, kl_i, kl_r, kl_n, kl_0, kl_l, cs_0, cs_i, cs_r, cs_n, cs_l, aRf_s, aRf_n, gi_wl, gi_wr, gl_wi, gl_wl, gl_wr, gr_wi, gr_wl, gr_wr, sh_wi, sh_wl, sh_wr, gl_cp, gr_cp, sh_cp, gl_rw, gr_rw, sh_rw, gi_rl, gr_rl, sh_rl, Option.toList_some, Option.toList_none, List.nil_append, List.cons_append, List.append_nil, Option.some.injEq, Prod.mk.injEq, and_true, true_and, and_self, if_true, if_false, reduceCtorEq, Nat.reduceLeDiff, Nat.reduceLT, Nat.reduceAdd, Nat.reduceEqDiff, false_and, and_false, exists_const, exists_eq_left, exists_eq_left', exists_and_left, and_assoc, nltL, nltR, nleL, nleR, neqL, neqR, naL, naR, nmL, nmR, nI_ltI, nI_leI, nI_eq, nI_add, nI_mul, nI_clamp, n0l, n0r, nm1, nm1', nm1l, nm1r, nm1g, nsL, nI_m1, Nat.add_sub_cancel, vpn, vpL, nclL, le32, leLL, leLN, leNL, leNN, inA, nb0, nb1, gi_wi_n, gi_wi_e, gi_rw_n, gi_rw_e, aWi_rw, ifl, ifl_, ifle, ifle_, ifq, ifq_, ifnq, ifnq_, ifnl, ifnl_, ifnle, ifnle_, z399 ok, r4, r5]
  obtain ⟨h1, eh1⟩ : ∃ h1, h1 = aWi (aWi h 399 25 (nI s.2.2.1.length)) 399 26 (nI s.2.2.2.length) := ⟨_, rfl⟩
  rw [← eh1]
  have a1 : Ag (fun a k => a = 399 ∧ (k = 25 ∨ k = 26)) h h1 := by
    rw [eh1]
    exact ((Ag.refl ok).wi (by omega)).wi (by omega)
  refine aLoop 5 (fun j lv h' => lv = [some (.ref 399), some (.int (nI j))] ∧ Ag (fun a _ => a = 413) h1 h' ∧ ∀ k, k < j → gi h' 413 k = gi h 410 k) ?_ ?_ 0 _ _ (Nat.zero_le _) ⟨rfl, Ag.refl a1.1, fun k hk => absurd hk (Nat.not_lt_zero _)⟩
  · rintro j lv h' hj ⟨rfl, a2, e2⟩ hk
    have ok := a2.1
    have n1 : ¬ 5 ≤ j := by omega
    have v : gi h' 410 j = gi h 410 j := by rw [a2.2 _ _ (by omega), a1.2 _ _ (by omega)]
    rw [s204_18]
    simp (disch := omega) only [s204_19, s204_20, s204_23, s204_24, s204_27, s204_28, s204_29, s204_32, s204_33, s204_34, s204_35, s204_38, true_or, or_true, or_false, false_or, or_self, Int32.reduceLT, Int32.reduceLE, Nat.add_zero, Nat.zero_add, Nat.not_lt_zero, not_false_eq_true, not_true_eq_false, and_assoc, kl_q, kl_i, kl_r, kl_n, kl_0, kl_l, cs_0, cs_i, cs_r, cs_n, cs_l, aRf_s, aRf_n, gi_wl, gi_wr, gl_wi, gl_wl, gl_wr, gr_wi, gr_wl, gr_wr, sh_wi, sh_wl, sh_wr, gl_cp, gr_cp, sh_cp, gl_rw, gr_rw, sh_rw, gi_rl, gr_rl, sh_rl, Option.toList_some, Option.toList_none, List.nil_append, List.cons_append, List.append_nil, Option.some.injEq, Prod.mk.injEq, and_true, true_and, and_self, if_true, if_false, reduceCtorEq, Nat.reduceLeDiff, Nat.reduceLT, Nat.reduceAdd, Nat.reduceEqDiff, false_and, and_false, exists_const, exists_eq_left, exists_eq_left', exists_and_left, and_assoc, nltL, nltR, nleL, nleR, neqL, neqR, naL, naR, nmL, nmR, nI_ltI, nI_leI, nI_eq, nI_add, nI_mul, nI_clamp, n0l, n0r, nm1, nm1', nm1l, nm1r, nm1g, nsL, nI_m1, Nat.add_sub_cancel, vpn, vpL, nclL, le32, leLL, leLN, leNL, leNN, inA, nb0, nb1, gi_wi_n, gi_wi_e, gi_rw_n, gi_rw_e, aWi_rw, ifl, ifl_, ifle, ifle_, ifq, ifq_, ifnq, ifnq_, ifnl, ifnl_, ifnle, ifnle_, z399 ok, z410 ok, z413 ok, r399_17 ok, r399_22 ok, n1, hj, v]
    refine hk _ _ ⟨rfl, a2.wi rfl, fun k hk2 => ?_⟩
    by_cases hkj : k = j
    · subst hkj
      rw [gi_wi_e]
    · rw [gi_wi_n (by omega)]
      exact e2 k (by omega)
  rintro lv h2 ⟨rfl, a2, e2⟩
  rw [s204_18]
  simp (disch := omega) only [s204_19, s204_20, s204_23, s204_24, s204_27, s204_28, s204_29, s204_32, s204_33, s204_34, s204_35, s204_38, s204_41, s204_42, true_or, or_true, or_false, false_or, or_self, Int32.reduceLT, Int32.reduceLE, Nat.add_zero, Nat.zero_add, Nat.not_lt_zero, not_false_eq_true, not_true_eq_false, and_assoc, kl_q, kl_i, kl_r, kl_n, kl_0, kl_l, cs_0, cs_i, cs_r, cs_n, cs_l, aRf_s, aRf_n, gi_wl, gi_wr, gl_wi, gl_wl, gl_wr, gr_wi, gr_wl, gr_wr, sh_wi, sh_wl, sh_wr, gl_cp, gr_cp, sh_cp, gl_rw, gr_rw, sh_rw, gi_rl, gr_rl, sh_rl, Option.toList_some, Option.toList_none, List.nil_append, List.cons_append, List.append_nil, Option.some.injEq, Prod.mk.injEq, and_true, true_and, and_self, if_true, if_false, reduceCtorEq, Nat.reduceLeDiff, Nat.reduceLT, Nat.reduceAdd, Nat.reduceEqDiff, false_and, and_false, exists_const, exists_eq_left, exists_eq_left', exists_and_left, and_assoc, nltL, nltR, nleL, nleR, neqL, neqR, naL, naR, nmL, nmR, nI_ltI, nI_leI, nI_eq, nI_add, nI_mul, nI_clamp, n0l, n0r, nm1, nm1', nm1l, nm1r, nm1g, nsL, nI_m1, Nat.add_sub_cancel, vpn, vpL, nclL, le32, leLL, leLN, leNL, leNN, inA, nb0, nb1, gi_wi_n, gi_wi_e, gi_rw_n, gi_rw_e, aWi_rw, ifl, ifl_, ifle, ifle_, ifq, ifq_, ifnq, ifnq_, ifnl, ifnl_, ifnle, ifnle_, Nat.le_refl]
  refine aLoop 24 (fun j lv h' => lv = [some (.ref 399), some (.int (nI j))] ∧ Ag (fun a _ => a = 414) h2 h' ∧ ∀ k, k < j → gi h' 414 k = gi h 411 k) ?_ ?_ 0 _ _ (Nat.zero_le _) ⟨rfl, Ag.refl a2.1, fun k hk => absurd hk (Nat.not_lt_zero _)⟩
  · rintro j lv h' hj ⟨rfl, a3, e3⟩ hk
    have ok := a3.1
    have n1 : ¬ 24 ≤ j := by omega
    have v : gi h' 411 j = gi h 411 j := by rw [a3.2 _ _ (by omega), a2.2 _ _ (by omega), a1.2 _ _ (by omega)]
    rw [s204_43]
    simp (disch := omega) only [s204_44, s204_46, s204_49, s204_50, s204_53, s204_54, s204_55, s204_58, s204_59, s204_60, s204_61, s204_64, true_or, or_true, or_false, false_or, or_self, Int32.reduceLT, Int32.reduceLE, Nat.add_zero, Nat.zero_add, Nat.not_lt_zero, not_false_eq_true, not_true_eq_false, and_assoc, kl_q, kl_i, kl_r, kl_n, kl_0, kl_l, cs_0, cs_i, cs_r, cs_n, cs_l, aRf_s, aRf_n, gi_wl, gi_wr, gl_wi, gl_wl, gl_wr, gr_wi, gr_wl, gr_wr, sh_wi, sh_wl, sh_wr, gl_cp, gr_cp, sh_cp, gl_rw, gr_rw, sh_rw, gi_rl, gr_rl, sh_rl, Option.toList_some, Option.toList_none, List.nil_append, List.cons_append, List.append_nil, Option.some.injEq, Prod.mk.injEq, and_true, true_and, and_self, if_true, if_false, reduceCtorEq, Nat.reduceLeDiff, Nat.reduceLT, Nat.reduceAdd, Nat.reduceEqDiff, false_and, and_false, exists_const, exists_eq_left, exists_eq_left', exists_and_left, and_assoc, nltL, nltR, nleL, nleR, neqL, neqR, naL, naR, nmL, nmR, nI_ltI, nI_leI, nI_eq, nI_add, nI_mul, nI_clamp, n0l, n0r, nm1, nm1', nm1l, nm1r, nm1g, nsL, nI_m1, Nat.add_sub_cancel, vpn, vpL, nclL, le32, leLL, leLN, leNL, leNN, inA, nb0, nb1, gi_wi_n, gi_wi_e, gi_rw_n, gi_rw_e, aWi_rw, ifl, ifl_, ifle, ifle_, ifq, ifq_, ifnq, ifnq_, ifnl, ifnl_, ifnle, ifnle_, z399 ok, z411 ok, z414 ok, r399_18 ok, r399_23 ok, n1, hj, v]
    refine hk _ _ ⟨rfl, a3.wi rfl, fun k hk2 => ?_⟩
    by_cases hkj : k = j
    · subst hkj
      rw [gi_wi_e]
    · rw [gi_wi_n (by omega)]
      exact e3 k (by omega)
  rintro lv h3 ⟨rfl, a3, e3⟩
  rw [s204_43]
  simp (disch := omega) only [s204_44, s204_46, s204_49, s204_50, s204_53, s204_54, s204_55, s204_58, s204_59, s204_60, s204_61, s204_64, s204_67, s204_68, true_or, or_true, or_false, false_or, or_self, Int32.reduceLT, Int32.reduceLE, Nat.add_zero, Nat.zero_add, Nat.not_lt_zero, not_false_eq_true, not_true_eq_false, and_assoc, kl_q, kl_i, kl_r, kl_n, kl_0, kl_l, cs_0, cs_i, cs_r, cs_n, cs_l, aRf_s, aRf_n, gi_wl, gi_wr, gl_wi, gl_wl, gl_wr, gr_wi, gr_wl, gr_wr, sh_wi, sh_wl, sh_wr, gl_cp, gr_cp, sh_cp, gl_rw, gr_rw, sh_rw, gi_rl, gr_rl, sh_rl, Option.toList_some, Option.toList_none, List.nil_append, List.cons_append, List.append_nil, Option.some.injEq, Prod.mk.injEq, and_true, true_and, and_self, if_true, if_false, reduceCtorEq, Nat.reduceLeDiff, Nat.reduceLT, Nat.reduceAdd, Nat.reduceEqDiff, false_and, and_false, exists_const, exists_eq_left, exists_eq_left', exists_and_left, and_assoc, nltL, nltR, nleL, nleR, neqL, neqR, naL, naR, nmL, nmR, nI_ltI, nI_leI, nI_eq, nI_add, nI_mul, nI_clamp, n0l, n0r, nm1, nm1', nm1l, nm1r, nm1g, nsL, nI_m1, Nat.add_sub_cancel, vpn, vpL, nclL, le32, leLL, leLN, leNL, leNN, inA, nb0, nb1, gi_wi_n, gi_wi_e, gi_rw_n, gi_rw_e, aWi_rw, ifl, ifl_, ifle, ifle_, ifq, ifq_, ifnq, ifnq_, ifnl, ifnl_, ifnle, ifnle_, Nat.le_refl]
  refine aLoop 10 (fun j lv h' => lv = [some (.ref 399), some (.int (nI j))] ∧ Ag (fun a _ => a = 415) h3 h' ∧ ∀ k, k < j → gi h' 415 k = gi h 412 k) ?_ ?_ 0 _ _ (Nat.zero_le _) ⟨rfl, Ag.refl a3.1, fun k hk => absurd hk (Nat.not_lt_zero _)⟩
  · rintro j lv h' hj ⟨rfl, a4, e4⟩ hk
    have ok := a4.1
    have n1 : ¬ 10 ≤ j := by omega
    have v : gi h' 412 j = gi h 412 j := by rw [a4.2 _ _ (by omega), a3.2 _ _ (by omega), a2.2 _ _ (by omega), a1.2 _ _ (by omega)]
    rw [s204_69]
    simp (disch := omega) only [s204_70, s204_72, s204_75, s204_76, s204_79, s204_80, s204_81, s204_84, s204_85, s204_86, s204_87, s204_90, true_or, or_true, or_false, false_or, or_self, Int32.reduceLT, Int32.reduceLE, Nat.add_zero, Nat.zero_add, Nat.not_lt_zero, not_false_eq_true, not_true_eq_false, and_assoc, kl_q, kl_i, kl_r, kl_n, kl_0, kl_l, cs_0, cs_i, cs_r, cs_n, cs_l, aRf_s, aRf_n, gi_wl, gi_wr, gl_wi, gl_wl, gl_wr, gr_wi, gr_wl, gr_wr, sh_wi, sh_wl, sh_wr, gl_cp, gr_cp, sh_cp, gl_rw, gr_rw, sh_rw, gi_rl, gr_rl, sh_rl, Option.toList_some, Option.toList_none, List.nil_append, List.cons_append, List.append_nil, Option.some.injEq, Prod.mk.injEq, and_true, true_and, and_self, if_true, if_false, reduceCtorEq, Nat.reduceLeDiff, Nat.reduceLT, Nat.reduceAdd, Nat.reduceEqDiff, false_and, and_false, exists_const, exists_eq_left, exists_eq_left', exists_and_left, and_assoc, nltL, nltR, nleL, nleR, neqL, neqR, naL, naR, nmL, nmR, nI_ltI, nI_leI, nI_eq, nI_add, nI_mul, nI_clamp, n0l, n0r, nm1, nm1', nm1l, nm1r, nm1g, nsL, nI_m1, Nat.add_sub_cancel, vpn, vpL, nclL, le32, leLL, leLN, leNL, leNN, inA, nb0, nb1, gi_wi_n, gi_wi_e, gi_rw_n, gi_rw_e, aWi_rw, ifl, ifl_, ifle, ifle_, ifq, ifq_, ifnq, ifnq_, ifnl, ifnl_, ifnle, ifnle_, z399 ok, z412 ok, z415 ok, r399_19 ok, r399_24 ok, n1, hj, v]
    refine hk _ _ ⟨rfl, a4.wi rfl, fun k hk2 => ?_⟩
    by_cases hkj : k = j
    · subst hkj
      rw [gi_wi_e]
    · rw [gi_wi_n (by omega)]
      exact e4 k (by omega)
  rintro lv h4 ⟨rfl, a4, e4⟩
  rw [s204_69]
  simp (disch := omega) only [s204_70, s204_72, s204_75, s204_76, s204_79, s204_80, s204_81, s204_84, s204_85, s204_86, s204_87, s204_90, s204_93, s204_94, true_or, or_true, or_false, false_or, or_self, Int32.reduceLT, Int32.reduceLE, Nat.add_zero, Nat.zero_add, Nat.not_lt_zero, not_false_eq_true, not_true_eq_false, and_assoc, kl_q, kl_i, kl_r, kl_n, kl_0, kl_l, cs_0, cs_i, cs_r, cs_n, cs_l, aRf_s, aRf_n, gi_wl, gi_wr, gl_wi, gl_wl, gl_wr, gr_wi, gr_wl, gr_wr, sh_wi, sh_wl, sh_wr, gl_cp, gr_cp, sh_cp, gl_rw, gr_rw, sh_rw, gi_rl, gr_rl, sh_rl, Option.toList_some, Option.toList_none, List.nil_append, List.cons_append, List.append_nil, Option.some.injEq, Prod.mk.injEq, and_true, true_and, and_self, if_true, if_false, reduceCtorEq, Nat.reduceLeDiff, Nat.reduceLT, Nat.reduceAdd, Nat.reduceEqDiff, false_and, and_false, exists_const, exists_eq_left, exists_eq_left', exists_and_left, and_assoc, nltL, nltR, nleL, nleR, neqL, neqR, naL, naR, nmL, nmR, nI_ltI, nI_leI, nI_eq, nI_add, nI_mul, nI_clamp, n0l, n0r, nm1, nm1', nm1l, nm1r, nm1g, nsL, nI_m1, Nat.add_sub_cancel, vpn, vpL, nclL, le32, leLL, leLN, leNL, leNN, inA, nb0, nb1, gi_wi_n, gi_wi_e, gi_rw_n, gi_rw_e, aWi_rw, ifl, ifl_, ifle, ifle_, ifq, ifq_, ifnq, ifnq_, ifnl, ifnl_, ifnle, ifnle_, Nat.le_refl]
  refine aLoop 214 (fun j lv h' => lv = [some (.ref 399), some (.int (nI j))] ∧ Ag (fun a _ => a = 416) h4 h' ∧ ∀ k, k < j → gi h' 416 k = 0) ?_ ?_ 0 _ _ (Nat.zero_le _) ⟨rfl, Ag.refl a4.1, fun k hk => absurd hk (Nat.not_lt_zero _)⟩
  · rintro j lv h' hj ⟨rfl, a5, e5⟩ hk
    have ok := a5.1
    have n1 : ¬ 214 ≤ j := by omega
    rw [s204_95]
    simp (disch := omega) only [s204_96, s204_99, s204_102, s204_103, s204_106, s204_107, s204_108, s204_109, s204_112, true_or, or_true, or_false, false_or, or_self, Int32.reduceLT, Int32.reduceLE, Nat.add_zero, Nat.zero_add, Nat.not_lt_zero, not_false_eq_true, not_true_eq_false, and_assoc, kl_q, kl_i, kl_r, kl_n, kl_0, kl_l, cs_0, cs_i, cs_r, cs_n, cs_l, aRf_s, aRf_n, gi_wl, gi_wr, gl_wi, gl_wl, gl_wr, gr_wi, gr_wl, gr_wr, sh_wi, sh_wl, sh_wr, gl_cp, gr_cp, sh_cp, gl_rw, gr_rw, sh_rw, gi_rl, gr_rl, sh_rl, Option.toList_some, Option.toList_none, List.nil_append, List.cons_append, List.append_nil, Option.some.injEq, Prod.mk.injEq, and_true, true_and, and_self, if_true, if_false, reduceCtorEq, Nat.reduceLeDiff, Nat.reduceLT, Nat.reduceAdd, Nat.reduceEqDiff, false_and, and_false, exists_const, exists_eq_left, exists_eq_left', exists_and_left, and_assoc, nltL, nltR, nleL, nleR, neqL, neqR, naL, naR, nmL, nmR, nI_ltI, nI_leI, nI_eq, nI_add, nI_mul, nI_clamp, n0l, n0r, nm1, nm1', nm1l, nm1r, nm1g, nsL, nI_m1, Nat.add_sub_cancel, vpn, vpL, nclL, le32, leLL, leLN, leNL, leNN, inA, nb0, nb1, gi_wi_n, gi_wi_e, gi_rw_n, gi_rw_e, aWi_rw, ifl, ifl_, ifle, ifle_, ifq, ifq_, ifnq, ifnq_, ifnl, ifnl_, ifnle, ifnle_, z399 ok, z416 ok, r399_27 ok, n1, hj]
    refine hk _ _ ⟨rfl, a5.wi rfl, fun k hk2 => ?_⟩
    by_cases hkj : k = j
    · subst hkj
      rw [gi_wi_e]
    · rw [gi_wi_n (by omega)]
      exact e5 k (by omega)
  rintro lv h5 ⟨rfl, a5, e5⟩
  have ok := a5.1
  rw [s204_95]
  simp (disch := omega) only [s204_96, s204_99, s204_102, s204_103, s204_106, s204_107, s204_108, s204_109, s204_112, s204_115, s204_116, true_or, or_true, or_false, false_or, or_self, Int32.reduceLT, Int32.reduceLE, Nat.add_zero, Nat.zero_add, Nat.not_lt_zero, not_false_eq_true, not_true_eq_false, and_assoc, kl_q, kl_i, kl_r, kl_n, kl_0, kl_l, cs_0, cs_i, cs_r, cs_n, cs_l, aRf_s, aRf_n, gi_wl, gi_wr, gl_wi, gl_wl, gl_wr, gr_wi, gr_wl, gr_wr, sh_wi, sh_wl, sh_wr, gl_cp, gr_cp, sh_cp, gl_rw, gr_rw, sh_rw, gi_rl, gr_rl, sh_rl, Option.toList_some, Option.toList_none, List.nil_append, List.cons_append, List.append_nil, Option.some.injEq, Prod.mk.injEq, and_true, true_and, and_self, if_true, if_false, reduceCtorEq, Nat.reduceLeDiff, Nat.reduceLT, Nat.reduceAdd, Nat.reduceEqDiff, false_and, and_false, exists_const, exists_eq_left, exists_eq_left', exists_and_left, and_assoc, nltL, nltR, nleL, nleR, neqL, neqR, naL, naR, nmL, nmR, nI_ltI, nI_leI, nI_eq, nI_add, nI_mul, nI_clamp, n0l, n0r, nm1, nm1', nm1l, nm1r, nm1g, nsL, nI_m1, Nat.add_sub_cancel, vpn, vpL, nclL, le32, leLL, leLN, leNL, leNN, inA, nb0, nb1, gi_wi_n, gi_wi_e, gi_rw_n, gi_rw_e, aWi_rw, ifl, ifl_, ifle, ifle_, ifq, ifq_, ifnq, ifnq_, ifnl, ifnl_, ifnle, ifnle_, z399 ok, Nat.le_refl]
  have t399 : ∀ k, gi h5 399 k = gi h1 399 k := fun k => by rw [a5.2 _ _ (by omega), a4.2 _ _ (by omega), a3.2 _ _ (by omega), a2.2 _ _ (by omega)]
  have b1 : gi h5 399 25 = nI s.2.2.1.length := by rw [t399, eh1, gi_wi_n (by omega), gi_wi_e]
  have b2 : gi h5 399 26 = nI s.2.2.2.length := by rw [t399, eh1, gi_wi_e]
  have b3 : ∀ k, k < 5 → gi h5 413 k = nI (s.2.1 k) := fun k hk => by rw [a5.2 _ _ (by omega), a4.2 _ _ (by omega), a3.2 _ _ (by omega), e2 k hk, r6 k hk]
  have b4 : ∀ i k, i < s.2.2.1.length → k < 4 → gi h5 414 (4 * i + k) = nI (mf s.2.2.1 i k) := fun i k hi hk => by rw [a5.2 _ _ (by omega), a4.2 _ _ (by omega), e3 _ (by omega), r7 i hi k hk]
  have b5 : ∀ i k, i < s.2.2.2.length → k < 2 → gi h5 415 (2 * i + k) = nI (mf s.2.2.2 i k) := fun i k hi hk => by rw [a5.2 _ _ (by omega), e4 _ (by omega), r8 i hi k hk]
  refine m_beginR ok so b1 b2 b3 b4 b5 e5 (fun h6 a6 g1 g2 => ?_)
  have ok := a6.1
  have v4 : gi h6 413 4 = nI (s.2.1 4) := by rw [a6.2 _ _ (by omega), b3 4 (by omega)]
  have v25 : gi h6 399 25 = nI s.2.2.1.length := by rw [a6.2 _ _ (by omega), b1]
  simp (disch := omega) only [s204_116, s204_119, s204_120, s204_123, s204_125, s204_126, s204_129, s204_130, s204_131, s204_132, s204_133, s204_134, s204_137, s204_138, s204_139, s204_142, s204_143, s204_144, s204_147, s204_148, s204_151, true_or, or_true, or_false, false_or, or_self, Int32.reduceLT, Int32.reduceLE, Nat.add_zero, Nat.zero_add, Nat.not_lt_zero, not_false_eq_true, not_true_eq_false, and_assoc, kl_q, kl_i, kl_r, kl_n, kl_0, kl_l, cs_0, cs_i, cs_r, cs_n, cs_l, aRf_s, aRf_n, gi_wl, gi_wr, gl_wi, gl_wl, gl_wr, gr_wi, gr_wl, gr_wr, sh_wi, sh_wl, sh_wr, gl_cp, gr_cp, sh_cp, gl_rw, gr_rw, sh_rw, gi_rl, gr_rl, sh_rl, Option.toList_some, Option.toList_none, List.nil_append, List.cons_append, List.append_nil, Option.some.injEq, Prod.mk.injEq, and_true, true_and, and_self, if_true, if_false, reduceCtorEq, Nat.reduceLeDiff, Nat.reduceLT, Nat.reduceAdd, Nat.reduceEqDiff, false_and, and_false, exists_const, exists_eq_left, exists_eq_left', exists_and_left, and_assoc, nltL, nltR, nleL, nleR, neqL, neqR, naL, naR, nmL, nmR, nI_ltI, nI_leI, nI_eq, nI_add, nI_mul, nI_clamp, n0l, n0r, nm1, nm1', nm1l, nm1r, nm1g, nsL, nI_m1, Nat.add_sub_cancel, vpn, vpL, nclL, le32, leLL, leLN, leNL, leNN, inA, nb0, nb1, gi_wi_n, gi_wi_e, gi_rw_n, gi_rw_e, aWi_rw, ifl, ifl_, ifle, ifle_, ifq, ifq_, ifnq, ifnq_, ifnl, ifnl_, ifnle, ifnle_, z399 ok, z413 ok, z416 ok, r399_22 ok, r399_27 ok, v4, v25]
  obtain ⟨h7, eh7⟩ : ∃ h7, h7 = aWi (aWi (aWi (aWi h6 416 31 (nI (s.2.1 4))) 399 44 0) 399 38 0) 399 49 0 := ⟨_, rfl⟩
  rw [← eh7]
  have a7 : Ag (fun a k => (a = 416 ∧ k = 31) ∨ (a = 399 ∧ (k = 38 ∨ k = 44 ∨ k = 49))) h6 h7 := by
    rw [eh7]
    exact ((((Ag.refl ok).wi (by omega)).wi (by omega)).wi (by omega)).wi (by omega)
  have t7 : ∀ a k, ¬ ((a = 416 ∧ k = 31) ∨ (a = 399 ∧ (k = 38 ∨ k = 44 ∨ k = 49))) → gi h7 a k = gi h6 a k := fun a k z => a7.2 a k z
  have all : Ag BY h h7 := ((((((a1.mono (fun a k z => by unfold BY; omega)).trans (a2.mono (fun a k z => by unfold BY; omega))).trans (a3.mono (fun a k z => by unfold BY; omega))).trans (a4.mono (fun a k z => by unfold BY; omega))).trans (a5.mono (fun a k z => by unfold BY; omega))).trans (a6.mono (fun a k z => by unfold BY; omega))).trans (a7.mono (fun a k z => by unfold BY; omega))
  refine hq h7 all ⟨?_, ?_, fun k hk => ?_, fun i k hi hk => ?_, fun i k hi hk => ?_, fun k hk => ?_, ?_, ?_, ?_, ?_⟩
  · rw [t7 _ _ (by omega), v25]
  · rw [t7 _ _ (by omega), a6.2 _ _ (by omega), b2]
  · rw [t7 _ _ (by omega), a6.2 _ _ (by omega), b3 k hk]
  · rw [t7 _ _ (by omega), a6.2 _ _ (by omega), b4 i k hi hk]
  · rw [t7 _ _ (by omega), a6.2 _ _ (by omega), b5 i k hi hk]
  · by_cases z31 : k = 31
    · subst z31
      rw [eh7, gi_wi_n (by omega), gi_wi_n (by omega), gi_wi_n (by omega), gi_wi_e]
      rfl
    · rw [t7 _ _ (by omega)]
      by_cases z : k < 31
      · exact g1 k z
      · have : k = 32 := by omega
        subst this
        rw [g2 32 (by omega) (by omega)]
        rfl
  · rw [t7 _ _ (by omega), g2 33 (by omega) (by omega)]
  · rw [eh7, gi_wi_n (by omega), gi_wi_e]
    rfl
  · rw [eh7, gi_wi_n (by omega), gi_wi_n (by omega), gi_wi_e]
    rfl
  · rw [eh7, gi_wi_e]
end B3
