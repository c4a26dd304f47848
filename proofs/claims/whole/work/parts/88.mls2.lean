-- deps: 87.mls
section J2
variable {d : Nat} {h : aM} {Q : Option Value → aM → Prop} {B : Nat → Nat} {T p n sl : Nat} {ts t1 : List Tk} {cs : List Cl} {r : ClR}
theorem m_clause (hr : clG B T n p = some r) (hp : p ≤ T) (hl : ts.length ≤ p) (hc : cs.length < 80) (rc : RdM h B T p ts sl 0) (cc : ClM h sl cs) (hq : ∀ h', Ag (MY sl) h h' → PostJ B T ts cs sl r h' → Q none h') : AW (d + 12 * (7 - 0) + 13) 186 0 [some (.ref 399), none, none] [] h Q := by
  have ok := rc.ok
  have hbb := rc.1.2.2.2.2
  have hT := rc.1.2.1
  have hs := sk_le (B := B) hp
  have w0 := rc.2.2.1
  have r5 := rc.2.2.2.2.1
  have r6 := rc.2.2.2.2.2.1
  have c1 := cc.1
  have i1 : 140 * sl + cs.length < 700 := by omega
  have i2 : sl < 5 := by omega
  unfold clG at hr
  simp (disch := omega) only [s186_0, s186_3, s186_4, s186_7, s186_8, s186_9, s186_12, s186_13, s186_16, s186_17, s186_18, s186_19, s186_20, s186_23, s186_24, s186_27, s186_28, true_or, or_true, or_false, false_or, or_self, Int32.reduceLT, Int32.reduceLE, Nat.add_zero, Nat.zero_add, Nat.not_lt_zero, not_false_eq_true, not_true_eq_false, and_assoc, kl_q, kl_i, kl_r, kl_n, kl_0, kl_l, cs_0, cs_i, cs_r, cs_n, cs_l, aRf_s, aRf_n, gi_wl, gi_wr, gl_wi, gl_wl, gl_wr, gr_wi, gr_wl, gr_wr, sh_wi, sh_wl, sh_wr, gl_cp, gr_cp, sh_cp, gl_rw, gr_rw, sh_rw, gi_rl, gr_rl, sh_rl, Option.toList_some, Option.toList_none, List.nil_append, List.cons_append, List.append_nil, Option.some.injEq, Prod.mk.injEq, and_true, true_and, and_self, if_true, if_false, reduceCtorEq, Nat.reduceLeDiff, Nat.reduceLT, Nat.reduceAdd, Nat.reduceEqDiff, false_and, and_false, exists_const, exists_eq_left, exists_eq_left', exists_and_left, and_assoc, nltL, nltR, nleL, nleR, neqL, neqR, naL, naR, nmL, nmR, nI_ltI, nI_leI, nI_eq, nI_add, nI_mul, nI_clamp, n0l, n0r, nm1, nm1', nm1l, nm1r, nm1g, nsL, nI_m1, Nat.add_sub_cancel, vpn, vpL, nclL, le32, leLL, leLN, leNL, leNN, inA, nb0, nb1, gi_wi_n, gi_wi_e, gi_rw_n, gi_rw_e, aWi_rw, ifl, ifl_, ifle, ifle_, ifq, ifq_, ifnq, ifnq_, ifnl, ifnl_, ifnle, ifnle_, z399 ok, z404 ok, r399_9 ok, r5, c1, w0, i2]
  refine m_lookM rc.1 hp rc.2.1 (fun h1 a1 f1 => ?_)
  have rc1 := rc.at a1 f1
  have ok := rc1.ok
  have w1 := rc1.2.2.1
  have b1 : Ag (MY sl) h h1 := a1.mono (fun a k z => m3_my z)
  have l121 := lk_sg (q := sk B T p) hbb (b := 121) (by omega) (by omega)
  rw [show nI 121 = (121 : Int32) from rfl] at l121
  by_cases b121 : sgB B T (sk B T p) = 121
  rotate_left
  · rw [if_neg b121] at hr
    cases hr
    have n121 : ¬ lkI B T (sk B T p) = 121 := fun q => b121 (l121.mp q)
    simp (disch := omega) only [s186_31, s186_33, s186_36, s186_37, s186_40, s186_41, s186_41i, s186_42, s186_45, s186_46, s186_47, s186_50, s186_51, s186_54, s186_55, s186_58, s186_59, s186_62, s186_64, s186_67, s186_68, s186_71, s186_72, s186_72i, s186_73, s186_76, s186_77, s186_78, s186_81, s186_82, s186_85, s186_86, s186_89, true_or, or_true, or_false, false_or, or_self, Int32.reduceLT, Int32.reduceLE, Nat.add_zero, Nat.zero_add, Nat.not_lt_zero, not_false_eq_true, not_true_eq_false, and_assoc, kl_q, kl_i, kl_r, kl_n, kl_0, kl_l, cs_0, cs_i, cs_r, cs_n, cs_l, aRf_s, aRf_n, gi_wl, gi_wr, gl_wi, gl_wl, gl_wr, gr_wi, gr_wl, gr_wr, sh_wi, sh_wl, sh_wr, gl_cp, gr_cp, sh_cp, gl_rw, gr_rw, sh_rw, gi_rl, gr_rl, sh_rl, Option.toList_some, Option.toList_none, List.nil_append, List.cons_append, List.append_nil, Option.some.injEq, Prod.mk.injEq, and_true, true_and, and_self, if_true, if_false, reduceCtorEq, Nat.reduceLeDiff, Nat.reduceLT, Nat.reduceAdd, Nat.reduceEqDiff, false_and, and_false, exists_const, exists_eq_left, exists_eq_left', exists_and_left, and_assoc, nltL, nltR, nleL, nleR, neqL, neqR, naL, naR, nmL, nmR, nI_ltI, nI_leI, nI_eq, nI_add, nI_mul, nI_clamp, n0l, n0r, nm1, nm1', nm1l, nm1r, nm1g, nsL, nI_m1, Nat.add_sub_cancel, vpn, vpL, nclL, le32, leLL, leLN, leNL, leNN, inA, nb0, nb1, gi_wi_n, gi_wi_e, gi_rw_n, gi_rw_e, aWi_rw, ifl, ifl_, ifle, ifle_, ifq, ifq_, ifnq, ifnq_, ifnl, ifnl_, ifnle, ifnle_, z399 ok, n121, m_bad ok f1 w1, f1]
    exact hq _ (b1.trans ((((Ag.refl ok).wi (Or.inl (Or.inl ⟨rfl, Or.inr (Or.inl rfl)⟩))).wi (m3_my ⟨rfl, rfl⟩)).wi (m3_my ⟨rfl, rfl⟩))) ⟨ok, by rw [gi_wi_n (by omega), gi_wi_n (by omega), gi_wi_e]⟩
  rw [if_pos b121] at hr
  have hq1 := sg_lt (by omega) b121
  have f121 := l121.mpr b121
  simp (disch := omega) only [s186_31, s186_33, s186_36, s186_37, s186_40, s186_41, s186_41i, s186_42, s186_45, s186_46, s186_47, s186_50, s186_51, s186_54, s186_55, s186_58, s186_59, true_or, or_true, or_false, false_or, or_self, Int32.reduceLT, Int32.reduceLE, Nat.add_zero, Nat.zero_add, Nat.not_lt_zero, not_false_eq_true, not_true_eq_false, and_assoc, kl_q, kl_i, kl_r, kl_n, kl_0, kl_l, cs_0, cs_i, cs_r, cs_n, cs_l, aRf_s, aRf_n, gi_wl, gi_wr, gl_wi, gl_wl, gl_wr, gr_wi, gr_wl, gr_wr, sh_wi, sh_wl, sh_wr, gl_cp, gr_cp, sh_cp, gl_rw, gr_rw, sh_rw, gi_rl, gr_rl, sh_rl, Option.toList_some, Option.toList_none, List.nil_append, List.cons_append, List.append_nil, Option.some.injEq, Prod.mk.injEq, and_true, true_and, and_self, if_true, if_false, reduceCtorEq, Nat.reduceLeDiff, Nat.reduceLT, Nat.reduceAdd, Nat.reduceEqDiff, false_and, and_false, exists_const, exists_eq_left, exists_eq_left', exists_and_left, and_assoc, nltL, nltR, nleL, nleR, neqL, neqR, naL, naR, nmL, nmR, nI_ltI, nI_leI, nI_eq, nI_add, nI_mul, nI_clamp, n0l, n0r, nm1, nm1', nm1l, nm1r, nm1g, nsL, nI_m1, Nat.add_sub_cancel, vpn, vpL, nclL, le32, leLL, leLN, leNL, leNN, inA, nb0, nb1, gi_wi_n, gi_wi_e, gi_rw_n, gi_rw_e, aWi_rw, ifl, ifl_, ifle, ifle_, ifq, ifq_, ifnq, ifnq_, ifnl, ifnl_, ifnle, ifnle_, z399 ok, f121, f1, w1]
  have rc2 : RdM (aWi h1 399 3 (nI (sk B T p + 1))) B T (sk B T p + 1) ts sl 0 := rc1.at ((Ag.refl ok).wi ⟨rfl, rfl⟩) gi_wi_e
  have b2 : Ag (MY sl) h (aWi h1 399 3 (nI (sk B T p + 1))) := b1.trans ((Ag.refl ok).wi (m3_my ⟨rfl, rfl⟩))
  have hs1 := sk_le (B := B) (T := T) (p := sk B T p + 1) (by omega)
  refine m_lookM rc2.1 (by omega) rc2.2.1 (fun h3 a3 f3 => ?_)
  have rc3 := rc2.at a3 f3
  have ok := rc3.ok
  have w3 := rc3.2.2.1
  have b3 : Ag (MY sl) h h3 := b2.trans (a3.mono (fun a k z => m3_my z))
  have bl3 : Ag (ML sl) h h3 := (a1.mono (fun a k z => ml3 z)).trans (((Ag.refl rc1.ok).wi (ml3 ⟨rfl, rfl⟩)).trans (a3.mono (fun a k z => ml3 z)))
  have l58 := lk_sg (q := sk B T (sk B T p + 1)) hbb (b := 58) (by omega) (by omega)
  rw [show nI 58 = (58 : Int32) from rfl] at l58
  by_cases b58 : sgB B T (sk B T (sk B T p + 1)) = 58
  rotate_left
  · rw [if_neg b58] at hr
    cases hr
    have n58 : ¬ lkI B T (sk B T (sk B T p + 1)) = 58 := fun q => b58 (l58.mp q)
    simp (disch := omega) only [s186_62, s186_64, s186_67, s186_68, s186_71, s186_72, s186_72i, s186_73, s186_76, s186_77, s186_78, s186_81, s186_82, s186_85, s186_86, s186_89, true_or, or_true, or_false, false_or, or_self, Int32.reduceLT, Int32.reduceLE, Nat.add_zero, Nat.zero_add, Nat.not_lt_zero, not_false_eq_true, not_true_eq_false, and_assoc, kl_q, kl_i, kl_r, kl_n, kl_0, kl_l, cs_0, cs_i, cs_r, cs_n, cs_l, aRf_s, aRf_n, gi_wl, gi_wr, gl_wi, gl_wl, gl_wr, gr_wi, gr_wl, gr_wr, sh_wi, sh_wl, sh_wr, gl_cp, gr_cp, sh_cp, gl_rw, gr_rw, sh_rw, gi_rl, gr_rl, sh_rl, Option.toList_some, Option.toList_none, List.nil_append, List.cons_append, List.append_nil, Option.some.injEq, Prod.mk.injEq, and_true, true_and, and_self, if_true, if_false, reduceCtorEq, Nat.reduceLeDiff, Nat.reduceLT, Nat.reduceAdd, Nat.reduceEqDiff, false_and, and_false, exists_const, exists_eq_left, exists_eq_left', exists_and_left, and_assoc, nltL, nltR, nleL, nleR, neqL, neqR, naL, naR, nmL, nmR, nI_ltI, nI_leI, nI_eq, nI_add, nI_mul, nI_clamp, n0l, n0r, nm1, nm1', nm1l, nm1r, nm1g, nsL, nI_m1, Nat.add_sub_cancel, vpn, vpL, nclL, le32, leLL, leLN, leNL, leNN, inA, nb0, nb1, gi_wi_n, gi_wi_e, gi_rw_n, gi_rw_e, aWi_rw, ifl, ifl_, ifle, ifle_, ifq, ifq_, ifnq, ifnq_, ifnl, ifnl_, ifnle, ifnle_, z399 ok, n58, m_bad ok f3 w3, f3]
    exact hq _ (b3.trans (((Ag.refl ok).wi (Or.inl (Or.inl ⟨rfl, Or.inr (Or.inl rfl)⟩))).wi (m3_my ⟨rfl, rfl⟩))) ⟨ok, by rw [gi_wi_n (by omega), gi_wi_e]⟩
  rw [if_pos b58] at hr
  have hq3 := sg_lt (by omega) b58
  have f58 := l58.mpr b58
  obtain ⟨p3, ep3⟩ : ∃ p3, p3 = sk B T (sk B T p + 1) + 1 := ⟨_, rfl⟩
  rw [← ep3] at hr
  have hp3 : p3 ≤ T := by omega
  have hl3 : ts.length ≤ p3 := by omega
  have r53 := rc3.2.2.2.2.1
  have r73 := rc3.2.2.2.2.2.2.1
  simp (disch := omega) only [s186_62, s186_64, s186_67, s186_68, s186_71, s186_72, s186_72i, s186_73, s186_76, s186_77, s186_78, s186_81, s186_82, s186_85, s186_86, s186_89, s186_90, s186_91, s186_94, s186_95, s186_96, s186_99, s186_100, s186_103, s186_104, s186_105, s186_106, true_or, or_true, or_false, false_or, or_self, Int32.reduceLT, Int32.reduceLE, Nat.add_zero, Nat.zero_add, Nat.not_lt_zero, not_false_eq_true, not_true_eq_false, and_assoc, kl_q, kl_i, kl_r, kl_n, kl_0, kl_l, cs_0, cs_i, cs_r, cs_n, cs_l, aRf_s, aRf_n, gi_wl, gi_wr, gl_wi, gl_wl, gl_wr, gr_wi, gr_wl, gr_wr, sh_wi, sh_wl, sh_wr, gl_cp, gr_cp, sh_cp, gl_rw, gr_rw, sh_rw, gi_rl, gr_rl, sh_rl, Option.toList_some, Option.toList_none, List.nil_append, List.cons_append, List.append_nil, Option.some.injEq, Prod.mk.injEq, and_true, true_and, and_self, if_true, if_false, reduceCtorEq, Nat.reduceLeDiff, Nat.reduceLT, Nat.reduceAdd, Nat.reduceEqDiff, false_and, and_false, exists_const, exists_eq_left, exists_eq_left', exists_and_left, and_assoc, nltL, nltR, nleL, nleR, neqL, neqR, naL, naR, nmL, nmR, nI_ltI, nI_leI, nI_eq, nI_add, nI_mul, nI_clamp, n0l, n0r, nm1, nm1', nm1l, nm1r, nm1g, nsL, nI_m1, Nat.add_sub_cancel, vpn, vpL, nclL, le32, leLL, leLN, leNL, leNN, inA, nb0, nb1, gi_wi_n, gi_wi_e, gi_rw_n, gi_rw_e, aWi_rw, ifl, ifl_, ifle, ifle_, ifq, ifq_, ifnq, ifnq_, ifnl, ifnl_, ifnle, ifnle_, z399 ok, z403 ok, z405 ok, r399_8 ok, r399_10 ok, f58, f3, w3, r53, r73, i1, i2, ← ep3]
  obtain ⟨h4, eh4⟩ : ∃ h4, h4 = aWi (aWi h3 399 3 (nI p3)) 405 (140 * sl + cs.length) (nI ts.length) := ⟨_, rfl⟩
  rw [← eh4]
  have rc3' : RdM (aWi h3 399 3 (nI p3)) B T p3 ts sl 0 := rc3.at ((Ag.refl ok).wi ⟨rfl, rfl⟩) gi_wi_e
  have bl3' : Ag (ML sl) h (aWi h3 399 3 (nI p3)) := bl3.trans ((Ag.refl ok).wi (ml3 ⟨rfl, rfl⟩))
  have a4 : Ag (fun a k => (a = 405 ∨ a = 406 ∨ a = 407) ∧ k = 140 * sl + cs.length) (aWi h3 399 3 (nI p3)) h4 := by
    rw [eh4]
    exact (Ag.refl rc3'.ok).wi (by omega)
  have rc4 := rc3'.my (a4.mono (fun a k z => by omega))
  have cc4 := (cc.ag bl3').k a4
  have b4 : Ag (MY sl) h h4 := (bl3'.mono (fun a k z => ml_my z)).trans (a4.mono (fun a k z => by unfold MY; omega))
  have e54 : gi h4 405 (140 * sl + cs.length) = nI ts.length := by rw [eh4, gi_wi_e]
  have hs4 := sk_le (B := B) hp3
  have ss4 := sk_sk (B := B) hp3
  refine m_lookM rc4.1 hp3 rc4.2.1 (fun h5 a5 f5 => ?_)
  have rc5 := rc4.at a5 f5
  have ok := rc5.ok
  have cc5 := cc4.ag (a5.mono (fun a k z => ml3 z))
  have b5 : Ag (MY sl) h h5 := b4.trans (a5.mono (fun a k z => m3_my z))
  have e55 : gi h5 405 (140 * sl + cs.length) = nI ts.length := by rw [a5.2 _ _ (by omega), e54]
  have l33 := lk_sg (q := sk B T p3) hbb (b := 33) (by omega) (by omega)
  rw [show nI 33 = (33 : Int32) from rfl] at l33
  have l40 := lk_sg (q := sk B T p3) hbb (b := 40) (by omega) (by omega)
  rw [show nI 40 = (40 : Int32) from rfl] at l40
  have errE : ∀ h9 q1 J w, q1 ≤ T → r = .inl q1 → Ag (MY sl) h h9 → EdM h9 sl q1 J → gi h9 404 sl = nI cs.length → AW (d + 12 * (7 - 0) + 13) 186 184 [some (.ref 399), some (.int (nI (140 * sl + cs.length))), some (.int w)] [] h9 Q := by
    intro h9 q1 J w hq9 er a9 ed e4
    refine m_cl184E ed (by omega) e4 hc (fun h' a' o' e' => hq h' (a9.trans a') ?_)
    rw [er]
    exact ⟨o', e'⟩
  unfold bdG at hr
  by_cases hb5 : sgB B T (sk B T p3) = 33 ∨ sgB B T (sk B T p3) = 40
  · rw [if_pos hb5] at hr
    have tail : ∀ h6, Ag (fun a k => a = 399 ∧ k = 3) h5 h6 → gi h6 399 3 = nI (sk B T p3) → AW (d + 12 * (7 - 0) + 13) 186 128 [some (.ref 399), some (.int (nI (140 * sl + cs.length))), none] [.int 1] h6 Q := by
      intro h6 a6 f6
      have rc6 := rc5.at a6 f6
      have ok := rc6.ok
      have cc6 := cc5.ag (a6.mono (fun a k z => ml3 z))
      have b6 : Ag (MY sl) h h6 := b5.trans (a6.mono (fun a k z => m3_my z))
      have e56 : gi h6 405 (140 * sl + cs.length) = nI ts.length := by rw [a6.2 _ _ (by omega), e55]
      simp (disch := omega) only [s186_128, s186_129, s186_130, s186_133, s186_134, true_or, or_true, or_false, false_or, or_self, Int32.reduceLT, Int32.reduceLE, Nat.add_zero, Nat.zero_add, Nat.not_lt_zero, not_false_eq_true, not_true_eq_false, and_assoc, kl_q, kl_i, kl_r, kl_n, kl_0, kl_l, cs_0, cs_i, cs_r, cs_n, cs_l, aRf_s, aRf_n, gi_wl, gi_wr, gl_wi, gl_wl, gl_wr, gr_wi, gr_wl, gr_wr, sh_wi, sh_wl, sh_wr, gl_cp, gr_cp, sh_cp, gl_rw, gr_rw, sh_rw, gi_rl, gr_rl, sh_rl, Option.toList_some, Option.toList_none, List.nil_append, List.cons_append, List.append_nil, Option.some.injEq, Prod.mk.injEq, and_true, true_and, and_self, if_true, if_false, reduceCtorEq, Nat.reduceLeDiff, Nat.reduceLT, Nat.reduceAdd, Nat.reduceEqDiff, false_and, and_false, exists_const, exists_eq_left, exists_eq_left', exists_and_left, and_assoc, nltL, nltR, nleL, nleR, neqL, neqR, naL, naR, nmL, nmR, nI_ltI, nI_leI, nI_eq, nI_add, nI_mul, nI_clamp, n0l, n0r, nm1, nm1', nm1l, nm1r, nm1g, nsL, nI_m1, Nat.add_sub_cancel, vpn, vpL, nclL, le32, leLL, leLN, leNL, leNN, inA, nb0, nb1, gi_wi_n, gi_wi_e, gi_rw_n, gi_rw_e, aWi_rw, ifl, ifl_, ifle, ifle_, ifq, ifq_, ifnq, ifnq_, ifnl, ifnl_, ifnle, ifnle_, z399 ok]
      rcases bnc_of hr with ⟨q1, e1, er⟩ | ⟨p1, t1, e1, h5'⟩
      · have ps := pr_pos _ _ _ _ _ e1 hs4.2
        unfold PosR at ps
        simp only at ps
        refine simM B T n 5 0 _ _ ts sl _ d _ e1 hs4.2 (by omega) (by omega) rc6 (fun h7 a7 ed => ?_)
        have ed : EdM h7 sl q1 (250 + 10 * (7 - 0) + 6) := ed
        simp (disch := omega) only [s186_137, true_or, or_true, or_false, false_or, or_self, Int32.reduceLT, Int32.reduceLE, Nat.add_zero, Nat.zero_add, Nat.not_lt_zero, not_false_eq_true, not_true_eq_false, and_assoc, kl_q, kl_i, kl_r, kl_n, kl_0, kl_l, cs_0, cs_i, cs_r, cs_n, cs_l, aRf_s, aRf_n, gi_wl, gi_wr, gl_wi, gl_wl, gl_wr, gr_wi, gr_wl, gr_wr, sh_wi, sh_wl, sh_wr, gl_cp, gr_cp, sh_cp, gl_rw, gr_rw, sh_rw, gi_rl, gr_rl, sh_rl, Option.toList_some, Option.toList_none, List.nil_append, List.cons_append, List.append_nil, Option.some.injEq, Prod.mk.injEq, and_true, true_and, and_self, if_true, if_false, reduceCtorEq, Nat.reduceLeDiff, Nat.reduceLT, Nat.reduceAdd, Nat.reduceEqDiff, false_and, and_false, exists_const, exists_eq_left, exists_eq_left', exists_and_left, and_assoc]
        exact errE h7 q1 _ _ ps.2 er (b6.trans (a7.mono (fun a k z => ml_my z))) ed (cc6.ag a7).1
      · have ps := pr_pos _ _ _ _ _ e1 hs4.2
        unfold PosR ltM at ps
        simp at ps
        refine simM B T n 5 0 _ _ ts sl _ d _ e1 hs4.2 (by omega) (by omega) rc6 (fun h7 a7 rc7 => ?_)
        have rc7 : RdM h7 B T p1 (ts ++ t1) sl 0 := rc7
        simp (disch := omega) only [s186_137, true_or, or_true, or_false, false_or, or_self, Int32.reduceLT, Int32.reduceLE, Nat.add_zero, Nat.zero_add, Nat.not_lt_zero, not_false_eq_true, not_true_eq_false, and_assoc, kl_q, kl_i, kl_r, kl_n, kl_0, kl_l, cs_0, cs_i, cs_r, cs_n, cs_l, aRf_s, aRf_n, gi_wl, gi_wr, gl_wi, gl_wl, gl_wr, gr_wi, gr_wl, gr_wr, sh_wi, sh_wl, sh_wr, gl_cp, gr_cp, sh_cp, gl_rw, gr_rw, sh_rw, gi_rl, gr_rl, sh_rl, Option.toList_some, Option.toList_none, List.nil_append, List.cons_append, List.append_nil, Option.some.injEq, Prod.mk.injEq, and_true, true_and, and_self, if_true, if_false, reduceCtorEq, Nat.reduceLeDiff, Nat.reduceLT, Nat.reduceAdd, Nat.reduceEqDiff, false_and, and_false, exists_const, exists_eq_left, exists_eq_left', exists_and_left, and_assoc]
        exact m_behind h5' ps.2.1 (by rw [List.length_append]; omega) rc7 (cc6.ag a7) hc (by rw [a7.2 _ _ (by unfold ML; omega), e56]) (fun h8 a8 p8 => hq h8 ((b6.trans (a7.mono (fun a k z => ml_my z))).trans a8) p8)
    by_cases z33 : sgB B T (sk B T p3) = 33
    · have z' := l33.mpr z33
      have t' := tail h5 (Ag.refl ok) f5
      simp (disch := omega) only [s186_109, s186_111, s186_114, s186_115, s186_118, s186_120, s186_123, s186_124, s186_127, true_or, or_true, or_false, false_or, or_self, Int32.reduceLT, Int32.reduceLE, Nat.add_zero, Nat.zero_add, Nat.not_lt_zero, not_false_eq_true, not_true_eq_false, and_assoc, kl_q, kl_i, kl_r, kl_n, kl_0, kl_l, cs_0, cs_i, cs_r, cs_n, cs_l, aRf_s, aRf_n, gi_wl, gi_wr, gl_wi, gl_wl, gl_wr, gr_wi, gr_wl, gr_wr, sh_wi, sh_wl, sh_wr, gl_cp, gr_cp, sh_cp, gl_rw, gr_rw, sh_rw, gi_rl, gr_rl, sh_rl, Option.toList_some, Option.toList_none, List.nil_append, List.cons_append, List.append_nil, Option.some.injEq, Prod.mk.injEq, and_true, true_and, and_self, if_true, if_false, reduceCtorEq, Nat.reduceLeDiff, Nat.reduceLT, Nat.reduceAdd, Nat.reduceEqDiff, false_and, and_false, exists_const, exists_eq_left, exists_eq_left', exists_and_left, and_assoc, nltL, nltR, nleL, nleR, neqL, neqR, naL, naR, nmL, nmR, nI_ltI, nI_leI, nI_eq, nI_add, nI_mul, nI_clamp, n0l, n0r, nm1, nm1', nm1l, nm1r, nm1g, nsL, nI_m1, Nat.add_sub_cancel, vpn, vpL, nclL, le32, leLL, leLN, leNL, leNN, inA, nb0, nb1, gi_wi_n, gi_wi_e, gi_rw_n, gi_rw_e, aWi_rw, ifl, ifl_, ifle, ifle_, ifq, ifq_, ifnq, ifnq_, ifnl, ifnl_, ifnle, ifnle_, z']
      exact t'
    · have z' := l40.mpr (hb5.resolve_left z33)
      have n33 : ¬ lkI B T (sk B T p3) = 33 := fun q => z33 (l33.mp q)
      simp (disch := omega) only [s186_109, s186_111, s186_114, s186_115, true_or, or_true, or_false, false_or, or_self, Int32.reduceLT, Int32.reduceLE, Nat.add_zero, Nat.zero_add, Nat.not_lt_zero, not_false_eq_true, not_true_eq_false, and_assoc, kl_q, kl_i, kl_r, kl_n, kl_0, kl_l, cs_0, cs_i, cs_r, cs_n, cs_l, aRf_s, aRf_n, gi_wl, gi_wr, gl_wi, gl_wl, gl_wr, gr_wi, gr_wl, gr_wr, sh_wi, sh_wl, sh_wr, gl_cp, gr_cp, sh_cp, gl_rw, gr_rw, sh_rw, gi_rl, gr_rl, sh_rl, Option.toList_some, Option.toList_none, List.nil_append, List.cons_append, List.append_nil, Option.some.injEq, Prod.mk.injEq, and_true, true_and, and_self, if_true, if_false, reduceCtorEq, Nat.reduceLeDiff, Nat.reduceLT, Nat.reduceAdd, Nat.reduceEqDiff, false_and, and_false, exists_const, exists_eq_left, exists_eq_left', exists_and_left, and_assoc, nltL, nltR, nleL, nleR, neqL, neqR, naL, naR, nmL, nmR, nI_ltI, nI_leI, nI_eq, nI_add, nI_mul, nI_clamp, n0l, n0r, nm1, nm1', nm1l, nm1r, nm1g, nsL, nI_m1, Nat.add_sub_cancel, vpn, vpL, nclL, le32, leLL, leLN, leNL, leNN, inA, nb0, nb1, gi_wi_n, gi_wi_e, gi_rw_n, gi_rw_e, aWi_rw, ifl, ifl_, ifle, ifle_, ifq, ifq_, ifnq, ifnq_, ifnl, ifnl_, ifnle, ifnle_, z399 ok, n33]
      refine m_lookM rc5.1 hs4.2 f5 (fun h6 a6 f6 => ?_)
      rw [ss4] at f6 ⊢
      have t' := tail h6 a6 f6
      simp (disch := omega) only [s186_118, s186_120, s186_123, s186_124, s186_127, true_or, or_true, or_false, false_or, or_self, Int32.reduceLT, Int32.reduceLE, Nat.add_zero, Nat.zero_add, Nat.not_lt_zero, not_false_eq_true, not_true_eq_false, and_assoc, kl_q, kl_i, kl_r, kl_n, kl_0, kl_l, cs_0, cs_i, cs_r, cs_n, cs_l, aRf_s, aRf_n, gi_wl, gi_wr, gl_wi, gl_wl, gl_wr, gr_wi, gr_wl, gr_wr, sh_wi, sh_wl, sh_wr, gl_cp, gr_cp, sh_cp, gl_rw, gr_rw, sh_rw, gi_rl, gr_rl, sh_rl, Option.toList_some, Option.toList_none, List.nil_append, List.cons_append, List.append_nil, Option.some.injEq, Prod.mk.injEq, and_true, true_and, and_self, if_true, if_false, reduceCtorEq, Nat.reduceLeDiff, Nat.reduceLT, Nat.reduceAdd, Nat.reduceEqDiff, false_and, and_false, exists_const, exists_eq_left, exists_eq_left', exists_and_left, and_assoc, nltL, nltR, nleL, nleR, neqL, neqR, naL, naR, nmL, nmR, nI_ltI, nI_leI, nI_eq, nI_add, nI_mul, nI_clamp, n0l, n0r, nm1, nm1', nm1l, nm1r, nm1g, nsL, nI_m1, Nat.add_sub_cancel, vpn, vpL, nclL, le32, leLL, leLN, leNL, leNN, inA, nb0, nb1, gi_wi_n, gi_wi_e, gi_rw_n, gi_rw_e, aWi_rw, ifl, ifl_, ifle, ifle_, ifq, ifq_, ifnq, ifnq_, ifnl, ifnl_, ifnle, ifnle_, z']
      exact t'
  · rw [if_neg hb5] at hr
    have n33 : ¬ lkI B T (sk B T p3) = 33 := fun q => hb5 (Or.inl (l33.mp q))
    have n40 : ¬ lkI B T (sk B T p3) = 40 := fun q => hb5 (Or.inr (l40.mp q))
    simp (disch := omega) only [s186_109, s186_111, s186_114, s186_115, true_or, or_true, or_false, false_or, or_self, Int32.reduceLT, Int32.reduceLE, Nat.add_zero, Nat.zero_add, Nat.not_lt_zero, not_false_eq_true, not_true_eq_false, and_assoc, kl_q, kl_i, kl_r, kl_n, kl_0, kl_l, cs_0, cs_i, cs_r, cs_n, cs_l, aRf_s, aRf_n, gi_wl, gi_wr, gl_wi, gl_wl, gl_wr, gr_wi, gr_wl, gr_wr, sh_wi, sh_wl, sh_wr, gl_cp, gr_cp, sh_cp, gl_rw, gr_rw, sh_rw, gi_rl, gr_rl, sh_rl, Option.toList_some, Option.toList_none, List.nil_append, List.cons_append, List.append_nil, Option.some.injEq, Prod.mk.injEq, and_true, true_and, and_self, if_true, if_false, reduceCtorEq, Nat.reduceLeDiff, Nat.reduceLT, Nat.reduceAdd, Nat.reduceEqDiff, false_and, and_false, exists_const, exists_eq_left, exists_eq_left', exists_and_left, and_assoc, nltL, nltR, nleL, nleR, neqL, neqR, naL, naR, nmL, nmR, nI_ltI, nI_leI, nI_eq, nI_add, nI_mul, nI_clamp, n0l, n0r, nm1, nm1', nm1l, nm1r, nm1g, nsL, nI_m1, Nat.add_sub_cancel, vpn, vpL, nclL, le32, leLL, leLN, leNL, leNN, inA, nb0, nb1, gi_wi_n, gi_wi_e, gi_rw_n, gi_rw_e, aWi_rw, ifl, ifl_, ifle, ifle_, ifq, ifq_, ifnq, ifnq_, ifnl, ifnl_, ifnle, ifnle_, z399 ok, n33]
    refine m_lookM rc5.1 hs4.2 f5 (fun h6 a6 f6 => ?_)
    rw [ss4] at f6 ⊢
    have rc6 := rc5.at a6 f6
    have ok := rc6.ok
    have cc6 := cc5.ag (a6.mono (fun a k z => ml3 z))
    have b6 : Ag (MY sl) h h6 := b5.trans (a6.mono (fun a k z => m3_my z))
    have e56 : gi h6 405 (140 * sl + cs.length) = nI ts.length := by rw [a6.2 _ _ (by omega), e55]
    simp (disch := omega) only [s186_118, s186_120, s186_123, s186_124, s186_127, s186_128, s186_129, s186_130, s186_133, s186_134, s186_137, s186_140, s186_141, true_or, or_true, or_false, false_or, or_self, Int32.reduceLT, Int32.reduceLE, Nat.add_zero, Nat.zero_add, Nat.not_lt_zero, not_false_eq_true, not_true_eq_false, and_assoc, kl_q, kl_i, kl_r, kl_n, kl_0, kl_l, cs_0, cs_i, cs_r, cs_n, cs_l, aRf_s, aRf_n, gi_wl, gi_wr, gl_wi, gl_wl, gl_wr, gr_wi, gr_wl, gr_wr, sh_wi, sh_wl, sh_wr, gl_cp, gr_cp, sh_cp, gl_rw, gr_rw, sh_rw, gi_rl, gr_rl, sh_rl, Option.toList_some, Option.toList_none, List.nil_append, List.cons_append, List.append_nil, Option.some.injEq, Prod.mk.injEq, and_true, true_and, and_self, if_true, if_false, reduceCtorEq, Nat.reduceLeDiff, Nat.reduceLT, Nat.reduceAdd, Nat.reduceEqDiff, false_and, and_false, exists_const, exists_eq_left, exists_eq_left', exists_and_left, and_assoc, nltL, nltR, nleL, nleR, neqL, neqR, naL, naR, nmL, nmR, nI_ltI, nI_leI, nI_eq, nI_add, nI_mul, nI_clamp, n0l, n0r, nm1, nm1', nm1l, nm1r, nm1g, nsL, nI_m1, Nat.add_sub_cancel, vpn, vpL, nclL, le32, leLL, leLN, leNL, leNN, inA, nb0, nb1, gi_wi_n, gi_wi_e, gi_rw_n, gi_rw_e, aWi_rw, ifl, ifl_, ifle, ifle_, ifq, ifq_, ifnq, ifnq_, ifnl, ifnl_, ifnle, ifnle_, z399 ok, n40]
    rw [show d + 12 * (7 - 0) + 12 = (d + 5) + 12 * (7 - 0) + 7 by omega]
    rcases bnc_of hr with ⟨q1, e1, er⟩ | ⟨p1, t1, e1, h5'⟩
    · have ps := pr_pos _ _ _ _ _ e1 hs4.2
      unfold PosR at ps
      simp only at ps
      refine simM B T n 0 0 _ _ ts sl _ (d + 5) _ e1 hs4.2 (by omega) (by omega) rc6 (fun h7 a7 ed => ?_)
      have ed : EdM h7 sl q1 (250 + 10 * (7 - 0) + 2) := ed
      have ok := ed.1
      have w7 := ed.n1 (by omega)
      simp (disch := omega) only [s186_141, s186_144, s186_145, s186_148, s186_149, s186_152, s186_153, s186_156, s186_159, s186_162, s186_163, s186_166, s186_167, s186_168, s186_169, s186_172, s186_173, s186_176, s186_177, s186_180, s186_181, true_or, or_true, or_false, false_or, or_self, Int32.reduceLT, Int32.reduceLE, Nat.add_zero, Nat.zero_add, Nat.not_lt_zero, not_false_eq_true, not_true_eq_false, and_assoc, kl_q, kl_i, kl_r, kl_n, kl_0, kl_l, cs_0, cs_i, cs_r, cs_n, cs_l, aRf_s, aRf_n, gi_wl, gi_wr, gl_wi, gl_wl, gl_wr, gr_wi, gr_wl, gr_wr, sh_wi, sh_wl, sh_wr, gl_cp, gr_cp, sh_cp, gl_rw, gr_rw, sh_rw, gi_rl, gr_rl, sh_rl, Option.toList_some, Option.toList_none, List.nil_append, List.cons_append, List.append_nil, Option.some.injEq, Prod.mk.injEq, and_true, true_and, and_self, if_true, if_false, reduceCtorEq, Nat.reduceLeDiff, Nat.reduceLT, Nat.reduceAdd, Nat.reduceEqDiff, false_and, and_false, exists_const, exists_eq_left, exists_eq_left', exists_and_left, and_assoc, nltL, nltR, nleL, nleR, neqL, neqR, naL, naR, nmL, nmR, nI_ltI, nI_leI, nI_eq, nI_add, nI_mul, nI_clamp, n0l, n0r, nm1, nm1', nm1l, nm1r, nm1g, nsL, nI_m1, Nat.add_sub_cancel, vpn, vpL, nclL, le32, leLL, leLN, leNL, leNN, inA, nb0, nb1, gi_wi_n, gi_wi_e, gi_rw_n, gi_rw_e, aWi_rw, ifl, ifl_, ifle, ifle_, ifq, ifq_, ifnq, ifnq_, ifnl, ifnl_, ifnle, ifnle_, z399 ok, w7]
      exact errE h7 q1 _ _ ps.2 er (b6.trans (a7.mono (fun a k z => ml_my z))) ed (cc6.ag a7).1
    · have ps := pr_pos _ _ _ _ _ e1 hs4.2
      unfold PosR ltM at ps
      simp at ps
      have hs6 := sk_le (B := B) ps.2.1
      refine simM B T n 0 0 _ _ ts sl _ (d + 5) _ e1 hs4.2 (by omega) (by omega) rc6 (fun h7 a7 rc7 => ?_)
      have rc7 : RdM h7 B T p1 (ts ++ t1) sl 0 := rc7
      have ok := rc7.ok
      have w7 := rc7.2.2.1
      have cc7 := cc6.ag a7
      have b7 := b6.trans (a7.mono (fun a k z => ml_my z))
      have e57 : gi h7 405 (140 * sl + cs.length) = nI ts.length := by rw [a7.2 _ _ (by unfold ML; omega), e56]
      simp (disch := omega) only [s186_141, s186_144, s186_145, s186_148, s186_149, s186_152, s186_153, true_or, or_true, or_false, false_or, or_self, Int32.reduceLT, Int32.reduceLE, Nat.add_zero, Nat.zero_add, Nat.not_lt_zero, not_false_eq_true, not_true_eq_false, and_assoc, kl_q, kl_i, kl_r, kl_n, kl_0, kl_l, cs_0, cs_i, cs_r, cs_n, cs_l, aRf_s, aRf_n, gi_wl, gi_wr, gl_wi, gl_wl, gl_wr, gr_wi, gr_wl, gr_wr, sh_wi, sh_wl, sh_wr, gl_cp, gr_cp, sh_cp, gl_rw, gr_rw, sh_rw, gi_rl, gr_rl, sh_rl, Option.toList_some, Option.toList_none, List.nil_append, List.cons_append, List.append_nil, Option.some.injEq, Prod.mk.injEq, and_true, true_and, and_self, if_true, if_false, reduceCtorEq, Nat.reduceLeDiff, Nat.reduceLT, Nat.reduceAdd, Nat.reduceEqDiff, false_and, and_false, exists_const, exists_eq_left, exists_eq_left', exists_and_left, and_assoc, nltL, nltR, nleL, nleR, neqL, neqR, naL, naR, nmL, nmR, nI_ltI, nI_leI, nI_eq, nI_add, nI_mul, nI_clamp, n0l, n0r, nm1, nm1', nm1l, nm1r, nm1g, nsL, nI_m1, Nat.add_sub_cancel, vpn, vpL, nclL, le32, leLL, leLN, leNL, leNN, inA, nb0, nb1, gi_wi_n, gi_wi_e, gi_rw_n, gi_rw_e, aWi_rw, ifl, ifl_, ifle, ifle_, ifq, ifq_, ifnq, ifnq_, ifnl, ifnl_, ifnle, ifnle_, z399 ok, w7]
      refine m_lookM rc7.1 ps.2.1 rc7.2.1 (fun h8 a8 f8 => ?_)
      have rc8 := rc7.at a8 f8
      have ok := rc8.ok
      have w8 := rc8.2.2.1
      have cc8 := cc7.ag (a8.mono (fun a k z => ml3 z))
      have b8 : Ag (MY sl) h h8 := b7.trans (a8.mono (fun a k z => m3_my z))
      have e58 : gi h8 405 (140 * sl + cs.length) = nI ts.length := by rw [a8.2 _ _ (by omega), e57]
      have l8 : (ts ++ t1).length ≤ sk B T p1 := by
        rw [List.length_append]
        omega
      unfold mrG at h5'
      cases ho : opC (sgB B T (sk B T p1)) with
      | none =>
        rw [ho] at h5'
        cases h5'
        simp (disch := omega) only [s186_156, s186_159, s186_162, s186_163, s186_166, s186_167, s186_168, s186_169, s186_172, s186_173, s186_176, s186_177, s186_180, s186_181, s186_184, s186_185, s186_188, s186_189, s186_190, s186_193, s186_194, s186_195, s186_196, s186_197, s186_200, s186_201, s186_204, s186_205, s186_208, s186_209, s186_212, s186_214, s186_217, s186_218, s186_221, s186_222, s186_223, s186_223i, s186_224, s186_227, s186_228, s186_229, s186_232, s186_233, s186_236, s186_237, s186_238, s186_241, s186_242, s186_245, s186_246, s186_247, s186_248, true_or, or_true, or_false, false_or, or_self, Int32.reduceLT, Int32.reduceLE, Nat.add_zero, Nat.zero_add, Nat.not_lt_zero, not_false_eq_true, not_true_eq_false, and_assoc, kl_q, kl_i, kl_r, kl_n, kl_0, kl_l, cs_0, cs_i, cs_r, cs_n, cs_l, aRf_s, aRf_n, gi_wl, gi_wr, gl_wi, gl_wl, gl_wr, gr_wi, gr_wl, gr_wr, sh_wi, sh_wl, sh_wr, gl_cp, gr_cp, sh_cp, gl_rw, gr_rw, sh_rw, gi_rl, gr_rl, sh_rl, Option.toList_some, Option.toList_none, List.nil_append, List.cons_append, List.append_nil, Option.some.injEq, Prod.mk.injEq, and_true, true_and, and_self, if_true, if_false, reduceCtorEq, Nat.reduceLeDiff, Nat.reduceLT, Nat.reduceAdd, Nat.reduceEqDiff, false_and, and_false, exists_const, exists_eq_left, exists_eq_left', exists_and_left, and_assoc, nltL, nltR, nleL, nleR, neqL, neqR, naL, naR, nmL, nmR, nI_ltI, nI_leI, nI_eq, nI_add, nI_mul, nI_clamp, n0l, n0r, nm1, nm1', nm1l, nm1r, nm1g, nsL, nI_m1, Nat.add_sub_cancel, vpn, vpL, nclL, le32, leLL, leLN, leNL, leNN, inA, nb0, nb1, gi_wi_n, gi_wi_e, gi_rw_n, gi_rw_e, aWi_rw, ifl, ifl_, ifle, ifle_, ifq, ifq_, ifnq, ifnq_, ifnl, ifnl_, ifnle, ifnle_, z399 ok, z405 ok, z406 ok, r399_10 ok, r399_11 ok, m_sign hbb, ho, Option.isSome_none, bI_0, i1, e58]
        obtain ⟨h9, eh9⟩ : ∃ h9, h9 = aWi h8 406 (140 * sl + cs.length) (nI ts.length) := ⟨_, rfl⟩
        rw [← eh9]
        have a9 : Ag (fun a k => (a = 405 ∨ a = 406 ∨ a = 407) ∧ k = 140 * sl + cs.length) h8 h9 := by
          rw [eh9]
          exact (Ag.refl ok).wi (by omega)
        have b9 : Ag (MY sl) h h9 := b8.trans (a9.mono (fun a k z => by unfold MY; omega))
        refine m_cl251 (rc8.my (a9.mono (fun a k z => by omega))) (cc8.k a9) hc (show gi h9 405 _ = nI ts.length by rw [eh9, gi_wi_n (by omega), e58]) (show gi h9 406 _ = nI ts.length by rw [eh9, gi_wi_e]) (fun h10 a10 rc10 cc10 => ?_)
        refine hq h10 (b9.trans a10) ⟨by rw [List.nil_append]; exact rc10, ?_⟩
        rw [List.length_append] at cc10
        exact cc10
      | some o =>
        rw [ho] at h5'
        simp only at h5'
        simp (disch := omega) only [s186_156, s186_159, s186_162, s186_163, s186_166, s186_167, s186_168, s186_169, s186_172, s186_173, true_or, or_true, or_false, false_or, or_self, Int32.reduceLT, Int32.reduceLE, Nat.add_zero, Nat.zero_add, Nat.not_lt_zero, not_false_eq_true, not_true_eq_false, and_assoc, kl_q, kl_i, kl_r, kl_n, kl_0, kl_l, cs_0, cs_i, cs_r, cs_n, cs_l, aRf_s, aRf_n, gi_wl, gi_wr, gl_wi, gl_wl, gl_wr, gr_wi, gr_wl, gr_wr, sh_wi, sh_wl, sh_wr, gl_cp, gr_cp, sh_cp, gl_rw, gr_rw, sh_rw, gi_rl, gr_rl, sh_rl, Option.toList_some, Option.toList_none, List.nil_append, List.cons_append, List.append_nil, Option.some.injEq, Prod.mk.injEq, and_true, true_and, and_self, if_true, if_false, reduceCtorEq, Nat.reduceLeDiff, Nat.reduceLT, Nat.reduceAdd, Nat.reduceEqDiff, false_and, and_false, exists_const, exists_eq_left, exists_eq_left', exists_and_left, and_assoc, nltL, nltR, nleL, nleR, neqL, neqR, naL, naR, nmL, nmR, nI_ltI, nI_leI, nI_eq, nI_add, nI_mul, nI_clamp, n0l, n0r, nm1, nm1', nm1l, nm1r, nm1g, nsL, nI_m1, Nat.add_sub_cancel, vpn, vpL, nclL, le32, leLL, leLN, leNL, leNN, inA, nb0, nb1, gi_wi_n, gi_wi_e, gi_rw_n, gi_rw_e, aWi_rw, ifl, ifl_, ifle, ifle_, ifq, ifq_, ifnq, ifnq_, ifnl, ifnl_, ifnle, ifnle_, z399 ok, m_sign hbb, ho, Option.isSome_some, bI_0, Bool.true_eq_false]
        rw [show (d + 5) + 12 * (7 - 0) + 7 = (d + 4) + 12 * (7 - 0) + 8 by omega]
        have errA : ∀ h9 q1 J, q1 ≤ T → r = .inl q1 → Ag (MY sl) h h9 → EdM h9 sl q1 J → gi h9 404 sl = nI cs.length → AW (d + 12 * (7 - 0) + 13) 186 180 [some (.ref 399), some (.int (nI (140 * sl + cs.length))), some (.int 1)] [] h9 Q := by
          intro h9 q1 J hq9 er a9 ed e4
          have ok := ed.1
          simp (disch := omega) only [s186_180, s186_181, true_or, or_true, or_false, false_or, or_self, Int32.reduceLT, Int32.reduceLE, Nat.add_zero, Nat.zero_add, Nat.not_lt_zero, not_false_eq_true, not_true_eq_false, and_assoc, kl_q, kl_i, kl_r, kl_n, kl_0, kl_l, cs_0, cs_i, cs_r, cs_n, cs_l, aRf_s, aRf_n, gi_wl, gi_wr, gl_wi, gl_wl, gl_wr, gr_wi, gr_wl, gr_wr, sh_wi, sh_wl, sh_wr, gl_cp, gr_cp, sh_cp, gl_rw, gr_rw, sh_rw, gi_rl, gr_rl, sh_rl, Option.toList_some, Option.toList_none, List.nil_append, List.cons_append, List.append_nil, Option.some.injEq, Prod.mk.injEq, and_true, true_and, and_self, if_true, if_false, reduceCtorEq, Nat.reduceLeDiff, Nat.reduceLT, Nat.reduceAdd, Nat.reduceEqDiff, false_and, and_false, exists_const, exists_eq_left, exists_eq_left', exists_and_left, and_assoc, nltL, nltR, nleL, nleR, neqL, neqR, naL, naR, nmL, nmR, nI_ltI, nI_leI, nI_eq, nI_add, nI_mul, nI_clamp, n0l, n0r, nm1, nm1', nm1l, nm1r, nm1g, nsL, nI_m1, Nat.add_sub_cancel, vpn, vpL, nclL, le32, leLL, leLN, leNL, leNN, inA, nb0, nb1, gi_wi_n, gi_wi_e, gi_rw_n, gi_rw_e, aWi_rw, ifl, ifl_, ifle, ifle_, ifq, ifq_, ifnq, ifnq_, ifnl, ifnl_, ifnle, ifnle_, z399 ok, m_orE ed (show q1 < 2 ^ 31 by omega)]
          exact errE h9 q1 J _ hq9 er a9 ed e4
        rcases bnc_of h5' with ⟨q2, e2, er⟩ | ⟨p2, t2, e2, h5'⟩
        · have ps2 := pr_pos _ _ _ _ _ e2 hs6.2
          unfold PosR at ps2
          simp only at ps2
          refine simM B T n 10 0 _ _ (ts ++ t1) sl _ (d + 4) _ e2 hs6.2 (by omega) l8 rc8 (fun h9 a9 ed => ?_)
          have ed : EdM h9 sl q2 (250 + 10 * (7 - 0) + 3) := ed
          have ok := ed.1
          simp (disch := omega) only [s186_173, s186_176, s186_177, true_or, or_true, or_false, false_or, or_self, Int32.reduceLT, Int32.reduceLE, Nat.add_zero, Nat.zero_add, Nat.not_lt_zero, not_false_eq_true, not_true_eq_false, and_assoc, kl_q, kl_i, kl_r, kl_n, kl_0, kl_l, cs_0, cs_i, cs_r, cs_n, cs_l, aRf_s, aRf_n, gi_wl, gi_wr, gl_wi, gl_wl, gl_wr, gr_wi, gr_wl, gr_wr, sh_wi, sh_wl, sh_wr, gl_cp, gr_cp, sh_cp, gl_rw, gr_rw, sh_rw, gi_rl, gr_rl, sh_rl, Option.toList_some, Option.toList_none, List.nil_append, List.cons_append, List.append_nil, Option.some.injEq, Prod.mk.injEq, and_true, true_and, and_self, if_true, if_false, reduceCtorEq, Nat.reduceLeDiff, Nat.reduceLT, Nat.reduceAdd, Nat.reduceEqDiff, false_and, and_false, exists_const, exists_eq_left, exists_eq_left', exists_and_left, and_assoc, nltL, nltR, nleL, nleR, neqL, neqR, naL, naR, nmL, nmR, nI_ltI, nI_leI, nI_eq, nI_add, nI_mul, nI_clamp, n0l, n0r, nm1, nm1', nm1l, nm1r, nm1g, nsL, nI_m1, Nat.add_sub_cancel, vpn, vpL, nclL, le32, leLL, leLN, leNL, leNN, inA, nb0, nb1, gi_wi_n, gi_wi_e, gi_rw_n, gi_rw_e, aWi_rw, ifl, ifl_, ifle, ifle_, ifq, ifq_, ifnq, ifnq_, ifnl, ifnl_, ifnle, ifnle_, z399 ok, m_andE ed (show q2 < 2 ^ 31 by omega)]
          exact errA h9 q2 _ ps2.2 er (b8.trans (a9.mono (fun a k z => ml_my z))) ed (cc8.ag a9).1
        · have ps2 := pr_pos _ _ _ _ _ e2 hs6.2
          unfold PosR ltM at ps2
          simp at ps2
          refine simM B T n 10 0 _ _ (ts ++ t1) sl _ (d + 4) _ e2 hs6.2 (by omega) l8 rc8 (fun h9 a9 rc9 => ?_)
          have rc9 : RdM h9 B T p2 (ts ++ t1 ++ t2) sl 0 := rc9
          have ok := rc9.ok
          have cc9 := cc8.ag a9
          have b9 := b8.trans (a9.mono (fun a k z => ml_my z))
          have e59 : gi h9 405 (140 * sl + cs.length) = nI ts.length := by rw [a9.2 _ _ (by unfold ML; omega), e58]
          have l9 : (ts ++ t1 ++ t2).length ≤ p2 := by
            rw [List.length_append]
            omega
          simp (disch := omega) only [s186_173, s186_176, s186_177, true_or, or_true, or_false, false_or, or_self, Int32.reduceLT, Int32.reduceLE, Nat.add_zero, Nat.zero_add, Nat.not_lt_zero, not_false_eq_true, not_true_eq_false, and_assoc, kl_q, kl_i, kl_r, kl_n, kl_0, kl_l, cs_0, cs_i, cs_r, cs_n, cs_l, aRf_s, aRf_n, gi_wl, gi_wr, gl_wi, gl_wl, gl_wr, gr_wi, gr_wl, gr_wr, sh_wi, sh_wl, sh_wr, gl_cp, gr_cp, sh_cp, gl_rw, gr_rw, sh_rw, gi_rl, gr_rl, sh_rl, Option.toList_some, Option.toList_none, List.nil_append, List.cons_append, List.append_nil, Option.some.injEq, Prod.mk.injEq, and_true, true_and, and_self, if_true, if_false, reduceCtorEq, Nat.reduceLeDiff, Nat.reduceLT, Nat.reduceAdd, Nat.reduceEqDiff, false_and, and_false, exists_const, exists_eq_left, exists_eq_left', exists_and_left, and_assoc, nltL, nltR, nleL, nleR, neqL, neqR, naL, naR, nmL, nmR, nI_ltI, nI_leI, nI_eq, nI_add, nI_mul, nI_clamp, n0l, n0r, nm1, nm1', nm1l, nm1r, nm1g, nsL, nI_m1, Nat.add_sub_cancel, vpn, vpL, nclL, le32, leLL, leLN, leNL, leNN, inA, nb0, nb1, gi_wi_n, gi_wi_e, gi_rw_n, gi_rw_e, aWi_rw, ifl, ifl_, ifle, ifle_, ifq, ifq_, ifnq, ifnq_, ifnl, ifnl_, ifnle, ifnle_, z399 ok]
          rw [show (d + 4) + 12 * (7 - 0) + 8 = (d + 2) + 12 * (7 - 0) + 10 by omega]
          rcases bnc_of h5' with ⟨q3, e3, er⟩ | ⟨p3', t3, e3, h5'⟩
          · have ps3 := pr_pos _ _ _ _ _ e3 ps2.2.1
            unfold PosR at ps3
            simp only at ps3
            refine simM B T n 8 0 _ _ (ts ++ t1 ++ t2) sl _ (d + 2) _ e3 ps2.2.1 (by omega) l9 rc9 (fun h10 a10 ed => ?_)
            have ed : EdM h10 sl q3 (250 + 10 * (7 - 0) + 5) := ed
            simp (disch := omega) only [s186_177, true_or, or_true, or_false, false_or, or_self, Int32.reduceLT, Int32.reduceLE, Nat.add_zero, Nat.zero_add, Nat.not_lt_zero, not_false_eq_true, not_true_eq_false, and_assoc, kl_q, kl_i, kl_r, kl_n, kl_0, kl_l, cs_0, cs_i, cs_r, cs_n, cs_l, aRf_s, aRf_n, gi_wl, gi_wr, gl_wi, gl_wl, gl_wr, gr_wi, gr_wl, gr_wr, sh_wi, sh_wl, sh_wr, gl_cp, gr_cp, sh_cp, gl_rw, gr_rw, sh_rw, gi_rl, gr_rl, sh_rl, Option.toList_some, Option.toList_none, List.nil_append, List.cons_append, List.append_nil, Option.some.injEq, Prod.mk.injEq, and_true, true_and, and_self, if_true, if_false, reduceCtorEq, Nat.reduceLeDiff, Nat.reduceLT, Nat.reduceAdd, Nat.reduceEqDiff, false_and, and_false, exists_const, exists_eq_left, exists_eq_left', exists_and_left, and_assoc]
            exact errA h10 q3 _ ps3.2 er (b9.trans (a10.mono (fun a k z => ml_my z))) ed (cc9.ag a10).1
          · have ps3 := pr_pos _ _ _ _ _ e3 ps2.2.1
            unfold PosR ltM at ps3
            simp at ps3
            refine simM B T n 8 0 _ _ (ts ++ t1 ++ t2) sl _ (d + 2) _ e3 ps2.2.1 (by omega) l9 rc9 (fun h10 a10 rc10 => ?_)
            have rc10 : RdM h10 B T p3' (ts ++ t1 ++ t2 ++ t3) sl 0 := rc10
            have ok := rc10.ok
            have cc10 := cc9.ag a10
            have b10 := b9.trans (a10.mono (fun a k z => ml_my z))
            have e510 : gi h10 405 (140 * sl + cs.length) = nI ts.length := by rw [a10.2 _ _ (by unfold ML; omega), e59]
            have l10 : (ts ++ t1 ++ t2 ++ t3).length ≤ p3' := by
              rw [List.length_append]
              omega
            simp (disch := omega) only [s186_177, s186_180, s186_181, true_or, or_true, or_false, false_or, or_self, Int32.reduceLT, Int32.reduceLE, Nat.add_zero, Nat.zero_add, Nat.not_lt_zero, not_false_eq_true, not_true_eq_false, and_assoc, kl_q, kl_i, kl_r, kl_n, kl_0, kl_l, cs_0, cs_i, cs_r, cs_n, cs_l, aRf_s, aRf_n, gi_wl, gi_wr, gl_wi, gl_wl, gl_wr, gr_wi, gr_wl, gr_wr, sh_wi, sh_wl, sh_wr, gl_cp, gr_cp, sh_cp, gl_rw, gr_rw, sh_rw, gi_rl, gr_rl, sh_rl, Option.toList_some, Option.toList_none, List.nil_append, List.cons_append, List.append_nil, Option.some.injEq, Prod.mk.injEq, and_true, true_and, and_self, if_true, if_false, reduceCtorEq, Nat.reduceLeDiff, Nat.reduceLT, Nat.reduceAdd, Nat.reduceEqDiff, false_and, and_false, exists_const, exists_eq_left, exists_eq_left', exists_and_left, and_assoc, nltL, nltR, nleL, nleR, neqL, neqR, naL, naR, nmL, nmR, nI_ltI, nI_leI, nI_eq, nI_add, nI_mul, nI_clamp, n0l, n0r, nm1, nm1', nm1l, nm1r, nm1g, nsL, nI_m1, Nat.add_sub_cancel, vpn, vpL, nclL, le32, leLL, leLN, leNL, leNN, inA, nb0, nb1, gi_wi_n, gi_wi_e, gi_rw_n, gi_rw_e, aWi_rw, ifl, ifl_, ifle, ifle_, ifq, ifq_, ifnq, ifnq_, ifnl, ifnl_, ifnle, ifnle_, z399 ok]
            rw [show (d + 2) + 12 * (7 - 0) + 10 = (d + 1) + 12 * (7 - 0) + 11 by omega]
            rcases bnc_of h5' with ⟨q4, e4, er⟩ | ⟨p4, t4, e4, h5'⟩
            · have ps4 := pr_pos _ _ _ _ _ e4 ps3.2.1
              unfold PosR at ps4
              simp only at ps4
              refine simM B T n 6 0 _ _ (ts ++ t1 ++ t2 ++ t3) sl _ (d + 1) _ e4 ps3.2.1 (by omega) l10 rc10 (fun h11 a11 ed => ?_)
              have ed : EdM h11 sl q4 (250 + 10 * (7 - 0) + 6) := ed
              simp (disch := omega) only [s186_181, true_or, or_true, or_false, false_or, or_self, Int32.reduceLT, Int32.reduceLE, Nat.add_zero, Nat.zero_add, Nat.not_lt_zero, not_false_eq_true, not_true_eq_false, and_assoc, kl_q, kl_i, kl_r, kl_n, kl_0, kl_l, cs_0, cs_i, cs_r, cs_n, cs_l, aRf_s, aRf_n, gi_wl, gi_wr, gl_wi, gl_wl, gl_wr, gr_wi, gr_wl, gr_wr, sh_wi, sh_wl, sh_wr, gl_cp, gr_cp, sh_cp, gl_rw, gr_rw, sh_rw, gi_rl, gr_rl, sh_rl, Option.toList_some, Option.toList_none, List.nil_append, List.cons_append, List.append_nil, Option.some.injEq, Prod.mk.injEq, and_true, true_and, and_self, if_true, if_false, reduceCtorEq, Nat.reduceLeDiff, Nat.reduceLT, Nat.reduceAdd, Nat.reduceEqDiff, false_and, and_false, exists_const, exists_eq_left, exists_eq_left', exists_and_left, and_assoc]
              exact errE h11 q4 _ _ ps4.2 er (b10.trans (a11.mono (fun a k z => ml_my z))) ed (cc10.ag a11).1
            · have ps4 := pr_pos _ _ _ _ _ e4 ps3.2.1
              unfold PosR ltM at ps4
              simp at ps4
              refine simM B T n 6 0 _ _ (ts ++ t1 ++ t2 ++ t3) sl _ (d + 1) _ e4 ps3.2.1 (by omega) l10 rc10 (fun h11 a11 rc11 => ?_)
              have rc11 : RdM h11 B T p4 (ts ++ t1 ++ t2 ++ t3 ++ t4) sl 0 := rc11
              simp (disch := omega) only [s186_181, true_or, or_true, or_false, false_or, or_self, Int32.reduceLT, Int32.reduceLE, Nat.add_zero, Nat.zero_add, Nat.not_lt_zero, not_false_eq_true, not_true_eq_false, and_assoc, kl_q, kl_i, kl_r, kl_n, kl_0, kl_l, cs_0, cs_i, cs_r, cs_n, cs_l, aRf_s, aRf_n, gi_wl, gi_wr, gl_wi, gl_wl, gl_wr, gr_wi, gr_wl, gr_wr, sh_wi, sh_wl, sh_wr, gl_cp, gr_cp, sh_cp, gl_rw, gr_rw, sh_rw, gi_rl, gr_rl, sh_rl, Option.toList_some, Option.toList_none, List.nil_append, List.cons_append, List.append_nil, Option.some.injEq, Prod.mk.injEq, and_true, true_and, and_self, if_true, if_false, reduceCtorEq, Nat.reduceLeDiff, Nat.reduceLT, Nat.reduceAdd, Nat.reduceEqDiff, false_and, and_false, exists_const, exists_eq_left, exists_eq_left', exists_and_left, and_assoc]
              have eap : ts ++ t1 ++ t2 ++ t3 ++ t4 = ts ++ (t1 ++ t2 ++ t3 ++ t4) := by simp only [List.append_assoc]
              have l11 : (ts ++ t1 ++ t2 ++ t3 ++ t4).length ≤ p4 := by
                rw [List.length_append]
                omega
              rw [eap] at rc11 l11
              exact m_behind h5' ps4.2.1 l11 rc11 (cc10.ag a11) hc (by rw [a11.2 _ _ (by unfold ML; omega), e510]) (fun h12 a12 p12 => hq h12 ((b10.trans (a11.mono (fun a k z => ml_my z))).trans a12) p12)
end J2
