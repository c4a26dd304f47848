-- deps: 79.mpars2
section M3
variable {B : Nat → Nat} {T n : Nat}
theorem simM0 (i2 : SimM B T n 2) (i1 : SimM B T n 1) : SimM B T (n + 1) 0 := by
  intro e p r ts sl h d Q hr hp he hl rc hq
  rw [prE0] at hr
  show AW (d + 12 * (7 - e) + 7) 179 0 [some (.ref 399), none] [] h Q
  have rc : RdM h B T p ts sl e := rc
  have hT := rc.1.2.1
  have ok := rc.ok
  simp (disch := omega) only [s179_0, s179_1, s179_4, s179_5, s179_8, s179_9, s179_12, s179_13, s179_16, s179_19, s179_20, s179_22, s179_24, s179_27, s179_28, s179_30, s179_33, s179_34, s179_34i, s179_35, s179_38, s179_39, s179_40, s179_43, s179_44, s179_47, s179_48, s179_49, s179_51, s179_54, s179_55, s179_58, s179_59, s179_60, s179_63, s179_64, s179_67, s179_68, s179_71, s179_72, s179_75, s179_78, s179_79, s179_80, s179_83, true_or, or_true, or_false, false_or, or_self, Int32.reduceLT, Int32.reduceLE, Nat.add_zero, Nat.zero_add, Nat.not_lt_zero, not_false_eq_true, not_true_eq_false, and_assoc, kl_q, kl_i, kl_r, kl_n, kl_0, kl_l, cs_0, cs_i, cs_r, cs_n, cs_l, aRf_s, aRf_n, gi_wl, gi_wr, gl_wi, gl_wl, gl_wr, gr_wi, gr_wl, gr_wr, sh_wi, sh_wl, sh_wr, gl_cp, gr_cp, sh_cp, gl_rw, gr_rw, sh_rw, gi_rl, gr_rl, sh_rl, Option.toList_some, Option.toList_none, List.nil_append, List.cons_append, List.append_nil, Option.some.injEq, Prod.mk.injEq, and_true, true_and, and_self, if_true, if_false, reduceCtorEq, Nat.reduceLeDiff, Nat.reduceLT, Nat.reduceAdd, Nat.reduceEqDiff, false_and, and_false, exists_const, exists_eq_left, exists_eq_left', exists_and_left, and_assoc, nltL, nltR, nleL, nleR, neqL, neqR, naL, naR, nmL, nmR, nI_ltI, nI_leI, nI_eq, nI_add, nI_mul, nI_clamp, n0l, n0r, nm1, nm1', nm1l, nm1r, nm1g, nsL, nI_m1, Nat.add_sub_cancel, vpn, vpL, nclL, le32, leLL, leLN, leNL, leNN, inA, nb0, nb1, gi_wi_n, gi_wi_e, gi_rw_n, gi_rw_e, aWi_rw, ifl, ifl_, ifle, ifle_, ifq, ifq_, ifnq, ifnq_, ifnl, ifnl_, ifnle, ifnle_, z399 ok]
  rcases bnd_of hr with ⟨q1, e1, rfl⟩ | ⟨p1, t1, e1, h5⟩
  · have ps := pr_pos _ _ _ _ _ e1 hp
    unfold PosR at ps
    simp only at ps
    refine i2 e p _ ts sl _ d _ e1 hp he hl rc (fun h3 a3 ed => ?_)
    have ed : EdM h3 sl q1 (250 + 10 * (7 - e) + 1) := ed
    have ok := ed.1
    have w3 := ed.n1 (by omega)
    simp (disch := omega) only [s179_0, s179_1, s179_4, s179_5, s179_8, s179_9, s179_12, s179_13, s179_16, s179_19, s179_20, s179_22, s179_24, s179_27, s179_28, s179_30, s179_33, s179_34, s179_34i, s179_35, s179_38, s179_39, s179_40, s179_43, s179_44, s179_47, s179_48, s179_49, s179_51, s179_54, s179_55, s179_58, s179_59, s179_60, s179_63, s179_64, s179_67, s179_68, s179_71, s179_72, s179_75, s179_78, s179_79, s179_80, s179_83, true_or, or_true, or_false, false_or, or_self, Int32.reduceLT, Int32.reduceLE, Nat.add_zero, Nat.zero_add, Nat.not_lt_zero, not_false_eq_true, not_true_eq_false, and_assoc, kl_q, kl_i, kl_r, kl_n, kl_0, kl_l, cs_0, cs_i, cs_r, cs_n, cs_l, aRf_s, aRf_n, gi_wl, gi_wr, gl_wi, gl_wl, gl_wr, gr_wi, gr_wl, gr_wr, sh_wi, sh_wl, sh_wr, gl_cp, gr_cp, sh_cp, gl_rw, gr_rw, sh_rw, gi_rl, gr_rl, sh_rl, Option.toList_some, Option.toList_none, List.nil_append, List.cons_append, List.append_nil, Option.some.injEq, Prod.mk.injEq, and_true, true_and, and_self, if_true, if_false, reduceCtorEq, Nat.reduceLeDiff, Nat.reduceLT, Nat.reduceAdd, Nat.reduceEqDiff, false_and, and_false, exists_const, exists_eq_left, exists_eq_left', exists_and_left, and_assoc, nltL, nltR, nleL, nleR, neqL, neqR, naL, naR, nmL, nmR, nI_ltI, nI_leI, nI_eq, nI_add, nI_mul, nI_clamp, n0l, n0r, nm1, nm1', nm1l, nm1r, nm1g, nsL, nI_m1, Nat.add_sub_cancel, vpn, vpL, nclL, le32, leLL, leLN, leNL, leNN, inA, nb0, nb1, gi_wi_n, gi_wi_e, gi_rw_n, gi_rw_e, aWi_rw, ifl, ifl_, ifle, ifle_, ifq, ifq_, ifnq, ifnq_, ifnl, ifnl_, ifnle, ifnle_, z399 ok, w3]
    rw [s179_21]
    simp (disch := omega) only [s179_0, s179_1, s179_4, s179_5, s179_8, s179_9, s179_12, s179_13, s179_16, s179_19, s179_20, s179_22, s179_24, s179_27, s179_28, s179_30, s179_33, s179_34, s179_34i, s179_35, s179_38, s179_39, s179_40, s179_43, s179_44, s179_47, s179_48, s179_49, s179_51, s179_54, s179_55, s179_58, s179_59, s179_60, s179_63, s179_64, s179_67, s179_68, s179_71, s179_72, s179_75, s179_78, s179_79, s179_80, s179_83, true_or, or_true, or_false, false_or, or_self, Int32.reduceLT, Int32.reduceLE, Nat.add_zero, Nat.zero_add, Nat.not_lt_zero, not_false_eq_true, not_true_eq_false, and_assoc, kl_q, kl_i, kl_r, kl_n, kl_0, kl_l, cs_0, cs_i, cs_r, cs_n, cs_l, aRf_s, aRf_n, gi_wl, gi_wr, gl_wi, gl_wl, gl_wr, gr_wi, gr_wl, gr_wr, sh_wi, sh_wl, sh_wr, gl_cp, gr_cp, sh_cp, gl_rw, gr_rw, sh_rw, gi_rl, gr_rl, sh_rl, Option.toList_some, Option.toList_none, List.nil_append, List.cons_append, List.append_nil, Option.some.injEq, Prod.mk.injEq, and_true, true_and, and_self, if_true, if_false, reduceCtorEq, Nat.reduceLeDiff, Nat.reduceLT, Nat.reduceAdd, Nat.reduceEqDiff, false_and, and_false, exists_const, exists_eq_left, exists_eq_left', exists_and_left, and_assoc, nltL, nltR, nleL, nleR, neqL, neqR, naL, naR, nmL, nmR, nI_ltI, nI_leI, nI_eq, nI_add, nI_mul, nI_clamp, n0l, n0r, nm1, nm1', nm1l, nm1r, nm1g, nsL, nI_m1, Nat.add_sub_cancel, vpn, vpL, nclL, le32, leLL, leLN, leNL, leNN, inA, nb0, nb1, gi_wi_n, gi_wi_e, gi_rw_n, gi_rw_e, aWi_rw, ifl, ifl_, ifle, ifle_, ifq, ifq_, ifnq, ifnq_, ifnl, ifnl_, ifnle, ifnle_]
    refine hq h3 a3 (EdM.mono ed ?_)
    show _ ≤ 250 + 10 * (7 - e) + 2
    omega
  · have ps := pr_pos _ _ _ _ _ e1 hp
    unfold PosR ltM at ps
    simp at ps
    refine i2 e p _ ts sl _ d _ e1 hp he hl rc (fun h3 a3 rc3 => ?_)
    have rc3 : RdM h3 B T p1 (ts ++ t1) sl e := rc3
    have ok := rc3.ok
    have w3 := rc3.2.2.1
    have l3 : (ts ++ t1).length ≤ p1 := by
      rw [List.length_append]
      omega
    simp (disch := omega) only [s179_0, s179_1, s179_4, s179_5, s179_8, s179_9, s179_12, s179_13, s179_16, s179_19, s179_20, s179_22, s179_24, s179_27, s179_28, s179_30, s179_33, s179_34, s179_34i, s179_35, s179_38, s179_39, s179_40, s179_43, s179_44, s179_47, s179_48, s179_49, s179_51, s179_54, s179_55, s179_58, s179_59, s179_60, s179_63, s179_64, s179_67, s179_68, s179_71, s179_72, s179_75, s179_78, s179_79, s179_80, s179_83, true_or, or_true, or_false, false_or, or_self, Int32.reduceLT, Int32.reduceLE, Nat.add_zero, Nat.zero_add, Nat.not_lt_zero, not_false_eq_true, not_true_eq_false, and_assoc, kl_q, kl_i, kl_r, kl_n, kl_0, kl_l, cs_0, cs_i, cs_r, cs_n, cs_l, aRf_s, aRf_n, gi_wl, gi_wr, gl_wi, gl_wl, gl_wr, gr_wi, gr_wl, gr_wr, sh_wi, sh_wl, sh_wr, gl_cp, gr_cp, sh_cp, gl_rw, gr_rw, sh_rw, gi_rl, gr_rl, sh_rl, Option.toList_some, Option.toList_none, List.nil_append, List.cons_append, List.append_nil, Option.some.injEq, Prod.mk.injEq, and_true, true_and, and_self, if_true, if_false, reduceCtorEq, Nat.reduceLeDiff, Nat.reduceLT, Nat.reduceAdd, Nat.reduceEqDiff, false_and, and_false, exists_const, exists_eq_left, exists_eq_left', exists_and_left, and_assoc, nltL, nltR, nleL, nleR, neqL, neqR, naL, naR, nmL, nmR, nI_ltI, nI_leI, nI_eq, nI_add, nI_mul, nI_clamp, n0l, n0r, nm1, nm1', nm1l, nm1r, nm1g, nsL, nI_m1, Nat.add_sub_cancel, vpn, vpL, nclL, le32, leLL, leLN, leNL, leNN, inA, nb0, nb1, gi_wi_n, gi_wi_e, gi_rw_n, gi_rw_e, aWi_rw, ifl, ifl_, ifle, ifle_, ifq, ifq_, ifnq, ifnq_, ifnl, ifnl_, ifnle, ifnle_, z399 ok, w3]
    refine m_lookM rc3.1 ps.2.1 rc3.2.1 (fun h4 a4 f4 => ?_)
    have rc4 := rc3.at a4 f4
    have b4 := a3.trans (a4.mono (fun a k z => ml3 (sl := sl) z))
    simp (disch := omega) only [s179_0, s179_1, s179_4, s179_5, s179_8, s179_9, s179_12, s179_13, s179_16, s179_19, s179_20, s179_22, s179_24, s179_27, s179_28, s179_30, s179_33, s179_34, s179_34i, s179_35, s179_38, s179_39, s179_40, s179_43, s179_44, s179_47, s179_48, s179_49, s179_51, s179_54, s179_55, s179_58, s179_59, s179_60, s179_63, s179_64, s179_67, s179_68, s179_71, s179_72, s179_75, s179_78, s179_79, s179_80, s179_83, true_or, or_true, or_false, false_or, or_self, Int32.reduceLT, Int32.reduceLE, Nat.add_zero, Nat.zero_add, Nat.not_lt_zero, not_false_eq_true, not_true_eq_false, and_assoc, kl_q, kl_i, kl_r, kl_n, kl_0, kl_l, cs_0, cs_i, cs_r, cs_n, cs_l, aRf_s, aRf_n, gi_wl, gi_wr, gl_wi, gl_wl, gl_wr, gr_wi, gr_wl, gr_wr, sh_wi, sh_wl, sh_wr, gl_cp, gr_cp, sh_cp, gl_rw, gr_rw, sh_rw, gi_rl, gr_rl, sh_rl, Option.toList_some, Option.toList_none, List.nil_append, List.cons_append, List.append_nil, Option.some.injEq, Prod.mk.injEq, and_true, true_and, and_self, if_true, if_false, reduceCtorEq, Nat.reduceLeDiff, Nat.reduceLT, Nat.reduceAdd, Nat.reduceEqDiff, false_and, and_false, exists_const, exists_eq_left, exists_eq_left', exists_and_left, and_assoc, nltL, nltR, nleL, nleR, neqL, neqR, naL, naR, nmL, nmR, nI_ltI, nI_leI, nI_eq, nI_add, nI_mul, nI_clamp, n0l, n0r, nm1, nm1', nm1l, nm1r, nm1g, nsL, nI_m1, Nat.add_sub_cancel, vpn, vpL, nclL, le32, leLL, leLN, leNL, leNN, inA, nb0, nb1, gi_wi_n, gi_wi_e, gi_rw_n, gi_rw_e, aWi_rw, ifl, ifl_, ifle, ifle_, ifq, ifq_, ifnq, ifnq_, ifnl, ifnl_, ifnle, ifnle_]
    rcases bnd_of h5 with ⟨q2, e2, rfl⟩ | ⟨p2, t2, e2, h6⟩
    · exact i1 e p1 _ (ts ++ t1) sl _ d _ e2 ps.2.1 he l3 rc4 (fun h5 a5 ed => hq h5 (b4.trans a5) ed)
    · cases h6
      refine i1 e p1 _ (ts ++ t1) sl _ d _ e2 ps.2.1 he l3 rc4 (fun h5 a5 rc5 => hq h5 (b4.trans a5) ?_)
      have rc5 : RdM h5 B T p2 (ts ++ t1 ++ t2) sl e := rc5
      rw [List.append_assoc] at rc5
      exact rc5
theorem simM1 (i2 : SimM B T n 2) (i1 : SimM B T n 1) : SimM B T (n + 1) 1 := by
  intro e p r ts sl h d Q hr hp he hl rc hq
  rw [prE1] at hr
  show AW (d + 12 * (7 - e) + 7) 179 21 [some (.ref 399), some (.int (lkI B T (sk B T p)))] [] h Q
  have rc : RdM h B T (sk B T p) ts sl e := rc
  have hs := sk_le (B := B) hp
  have hT := rc.1.2.1
  have hbb := rc.1.2.2.2.2
  have ok := rc.ok
  have l43 := lk_sg (q := sk B T p) hbb (b := 43) (by omega) (by omega)
  rw [show nI 43 = (43 : Int32) from rfl] at l43
  have l45 := lk_sg (q := sk B T p) hbb (b := 45) (by omega) (by omega)
  rw [show nI 45 = (45 : Int32) from rfl] at l45
  rw [s179_21]
  cases ho : opS (sgB B T (sk B T p)) with
  | none =>
    rw [ho] at hr
    cases hr
    have n43 : ¬ lkI B T (sk B T p) = 43 := fun q => by
      rw [l43.mp q] at ho
      cases ho
    have n45 : ¬ lkI B T (sk B T p) = 45 := fun q => by
      rw [l45.mp q] at ho
      cases ho
    simp (disch := omega) only [s179_0, s179_1, s179_4, s179_5, s179_8, s179_9, s179_12, s179_13, s179_16, s179_19, s179_20, s179_22, s179_24, s179_27, s179_28, s179_30, s179_33, s179_34, s179_34i, s179_35, s179_38, s179_39, s179_40, s179_43, s179_44, s179_47, s179_48, s179_49, s179_51, s179_54, s179_55, s179_58, s179_59, s179_60, s179_63, s179_64, s179_67, s179_68, s179_71, s179_72, s179_75, s179_78, s179_79, s179_80, s179_83, true_or, or_true, or_false, false_or, or_self, Int32.reduceLT, Int32.reduceLE, Nat.add_zero, Nat.zero_add, Nat.not_lt_zero, not_false_eq_true, not_true_eq_false, and_assoc, kl_q, kl_i, kl_r, kl_n, kl_0, kl_l, cs_0, cs_i, cs_r, cs_n, cs_l, aRf_s, aRf_n, gi_wl, gi_wr, gl_wi, gl_wl, gl_wr, gr_wi, gr_wl, gr_wr, sh_wi, sh_wl, sh_wr, gl_cp, gr_cp, sh_cp, gl_rw, gr_rw, sh_rw, gi_rl, gr_rl, sh_rl, Option.toList_some, Option.toList_none, List.nil_append, List.cons_append, List.append_nil, Option.some.injEq, Prod.mk.injEq, and_true, true_and, and_self, if_true, if_false, reduceCtorEq, Nat.reduceLeDiff, Nat.reduceLT, Nat.reduceAdd, Nat.reduceEqDiff, false_and, and_false, exists_const, exists_eq_left, exists_eq_left', exists_and_left, and_assoc, nltL, nltR, nleL, nleR, neqL, neqR, naL, naR, nmL, nmR, nI_ltI, nI_leI, nI_eq, nI_add, nI_mul, nI_clamp, n0l, n0r, nm1, nm1', nm1l, nm1r, nm1g, nsL, nI_m1, Nat.add_sub_cancel, vpn, vpL, nclL, le32, leLL, leLN, leNL, leNN, inA, nb0, nb1, gi_wi_n, gi_wi_e, gi_rw_n, gi_rw_e, aWi_rw, ifl, ifl_, ifle, ifle_, ifq, ifq_, ifnq, ifnq_, ifnl, ifnl_, ifnle, ifnle_, n43, n45]
    refine hq h (Ag.refl ok) ?_
    show RdM h B T (sk B T p) (ts ++ []) sl e
    rw [List.append_nil]
    exact rc
  | some o =>
    have hq1 := opS_lt ho
    rw [ho] at hr
    simp only at hr
    have more : ∀ y : Int32, lkI B T (sk B T p) = y → (y = 43 ∧ o = 2 ∨ (¬ y = 43 ∧ y = 45) ∧ o = 3) → AW (d + 12 * (7 - e) + 7) 179 33 [some (.ref 399), some (.int y)] [] h Q := by
      intro y hy hy2
      simp (disch := omega) only [s179_33, s179_34, s179_34i, s179_35, s179_38, s179_39, s179_40, s179_43, s179_44, true_or, or_true, or_false, false_or, or_self, Int32.reduceLT, Int32.reduceLE, Nat.add_zero, Nat.zero_add, Nat.not_lt_zero, not_false_eq_true, not_true_eq_false, and_assoc, kl_q, kl_i, kl_r, kl_n, kl_0, kl_l, cs_0, cs_i, cs_r, cs_n, cs_l, aRf_s, aRf_n, gi_wl, gi_wr, gl_wi, gl_wl, gl_wr, gr_wi, gr_wl, gr_wr, sh_wi, sh_wl, sh_wr, gl_cp, gr_cp, sh_cp, gl_rw, gr_rw, sh_rw, gi_rl, gr_rl, sh_rl, Option.toList_some, Option.toList_none, List.nil_append, List.cons_append, List.append_nil, Option.some.injEq, Prod.mk.injEq, and_true, true_and, and_self, if_true, if_false, reduceCtorEq, Nat.reduceLeDiff, Nat.reduceLT, Nat.reduceAdd, Nat.reduceEqDiff, false_and, and_false, exists_const, exists_eq_left, exists_eq_left', exists_and_left, and_assoc, nltL, nltR, nleL, nleR, neqL, neqR, naL, naR, nmL, nmR, nI_ltI, nI_leI, nI_eq, nI_add, nI_mul, nI_clamp, n0l, n0r, nm1, nm1', nm1l, nm1r, nm1g, nsL, nI_m1, Nat.add_sub_cancel, vpn, vpL, nclL, le32, leLL, leLN, leNL, leNN, inA, nb0, nb1, gi_wi_n, gi_wi_e, gi_rw_n, gi_rw_e, aWi_rw, ifl, ifl_, ifle, ifle_, ifq, ifq_, ifnq, ifnq_, ifnl, ifnl_, ifnle, ifnle_, z399 ok, rc.2.1]
      have rc2 : RdM (aWi h 399 3 (nI (sk B T p + 1))) B T (sk B T p + 1) ts sl e := rc.at ((Ag.refl ok).wi ⟨rfl, rfl⟩) gi_wi_e
      have b2 : Ag (ML sl) h (aWi h 399 3 (nI (sk B T p + 1))) := (Ag.refl ok).wi (ml3 ⟨rfl, rfl⟩)
      have fin : ∀ h3, Ag (ML sl) h h3 → (∀ q, r = .inl q → EdM h3 sl q (250 + 10 * (7 - e) + 2) → AW (d + 12 * (7 - e) + 7) 179 63 [some (.ref 399), some (.int y)] [] h3 Q) := by
        intro h3 a3 q er ed
        have ok := ed.1
        have hq9 : q ≤ T := by
          have := pr_pos (n + 1) 1 e p r (by rw [prE1, ho]; exact hr) hp
          rw [er] at this
          exact this.2
        have w3 := ed.n1 (by omega)
        simp (disch := omega) only [s179_0, s179_1, s179_4, s179_5, s179_8, s179_9, s179_12, s179_13, s179_16, s179_19, s179_20, s179_22, s179_24, s179_27, s179_28, s179_30, s179_33, s179_34, s179_34i, s179_35, s179_38, s179_39, s179_40, s179_43, s179_44, s179_47, s179_48, s179_49, s179_51, s179_54, s179_55, s179_58, s179_59, s179_60, s179_63, s179_64, s179_67, s179_68, s179_71, s179_72, s179_75, s179_78, s179_79, s179_80, s179_83, true_or, or_true, or_false, false_or, or_self, Int32.reduceLT, Int32.reduceLE, Nat.add_zero, Nat.zero_add, Nat.not_lt_zero, not_false_eq_true, not_true_eq_false, and_assoc, kl_q, kl_i, kl_r, kl_n, kl_0, kl_l, cs_0, cs_i, cs_r, cs_n, cs_l, aRf_s, aRf_n, gi_wl, gi_wr, gl_wi, gl_wl, gl_wr, gr_wi, gr_wl, gr_wr, sh_wi, sh_wl, sh_wr, gl_cp, gr_cp, sh_cp, gl_rw, gr_rw, sh_rw, gi_rl, gr_rl, sh_rl, Option.toList_some, Option.toList_none, List.nil_append, List.cons_append, List.append_nil, Option.some.injEq, Prod.mk.injEq, and_true, true_and, and_self, if_true, if_false, reduceCtorEq, Nat.reduceLeDiff, Nat.reduceLT, Nat.reduceAdd, Nat.reduceEqDiff, false_and, and_false, exists_const, exists_eq_left, exists_eq_left', exists_and_left, and_assoc, nltL, nltR, nleL, nleR, neqL, neqR, naL, naR, nmL, nmR, nI_ltI, nI_leI, nI_eq, nI_add, nI_mul, nI_clamp, n0l, n0r, nm1, nm1', nm1l, nm1r, nm1g, nsL, nI_m1, Nat.add_sub_cancel, vpn, vpL, nclL, le32, leLL, leLN, leNL, leNN, inA, nb0, nb1, gi_wi_n, gi_wi_e, gi_rw_n, gi_rw_e, aWi_rw, ifl, ifl_, ifle, ifle_, ifq, ifq_, ifnq, ifnq_, ifnl, ifnl_, ifnle, ifnle_, z399 ok, w3]
        rw [s179_21]
        simp (disch := omega) only [s179_0, s179_1, s179_4, s179_5, s179_8, s179_9, s179_12, s179_13, s179_16, s179_19, s179_20, s179_22, s179_24, s179_27, s179_28, s179_30, s179_33, s179_34, s179_34i, s179_35, s179_38, s179_39, s179_40, s179_43, s179_44, s179_47, s179_48, s179_49, s179_51, s179_54, s179_55, s179_58, s179_59, s179_60, s179_63, s179_64, s179_67, s179_68, s179_71, s179_72, s179_75, s179_78, s179_79, s179_80, s179_83, true_or, or_true, or_false, false_or, or_self, Int32.reduceLT, Int32.reduceLE, Nat.add_zero, Nat.zero_add, Nat.not_lt_zero, not_false_eq_true, not_true_eq_false, and_assoc, kl_q, kl_i, kl_r, kl_n, kl_0, kl_l, cs_0, cs_i, cs_r, cs_n, cs_l, aRf_s, aRf_n, gi_wl, gi_wr, gl_wi, gl_wl, gl_wr, gr_wi, gr_wl, gr_wr, sh_wi, sh_wl, sh_wr, gl_cp, gr_cp, sh_cp, gl_rw, gr_rw, sh_rw, gi_rl, gr_rl, sh_rl, Option.toList_some, Option.toList_none, List.nil_append, List.cons_append, List.append_nil, Option.some.injEq, Prod.mk.injEq, and_true, true_and, and_self, if_true, if_false, reduceCtorEq, Nat.reduceLeDiff, Nat.reduceLT, Nat.reduceAdd, Nat.reduceEqDiff, false_and, and_false, exists_const, exists_eq_left, exists_eq_left', exists_and_left, and_assoc, nltL, nltR, nleL, nleR, neqL, neqR, naL, naR, nmL, nmR, nI_ltI, nI_leI, nI_eq, nI_add, nI_mul, nI_clamp, n0l, n0r, nm1, nm1', nm1l, nm1r, nm1g, nsL, nI_m1, Nat.add_sub_cancel, vpn, vpL, nclL, le32, leLL, leLN, leNL, leNN, inA, nb0, nb1, gi_wi_n, gi_wi_e, gi_rw_n, gi_rw_e, aWi_rw, ifl, ifl_, ifle, ifle_, ifq, ifq_, ifnq, ifnq_, ifnl, ifnl_, ifnle, ifnle_]
        rw [er] at hq
        exact hq h3 a3 ed
      rcases bnd_of hr with ⟨q1, e1, er⟩ | ⟨p1, t1, e1, h5⟩
      · have ps := pr_pos _ _ _ _ _ e1 (by omega)
        unfold PosR at ps
        simp only at ps
        refine i2 e (sk B T p + 1) _ ts sl _ d _ e1 (by omega) he (by omega) rc2 (fun h3 a3 ed => ?_)
        have ed : EdM h3 sl q1 (250 + 10 * (7 - e) + 1) := ed
        have ok := ed.1
        rcases hy2 with ⟨y1, y2⟩ | ⟨⟨y0, y1⟩, y2⟩
        · subst y1
          simp (disch := omega) only [s179_47, s179_48, s179_49, s179_51, s179_54, s179_55, s179_58, s179_59, s179_60, true_or, or_true, or_false, false_or, or_self, Int32.reduceLT, Int32.reduceLE, Nat.add_zero, Nat.zero_add, Nat.not_lt_zero, not_false_eq_true, not_true_eq_false, and_assoc, kl_q, kl_i, kl_r, kl_n, kl_0, kl_l, cs_0, cs_i, cs_r, cs_n, cs_l, aRf_s, aRf_n, gi_wl, gi_wr, gl_wi, gl_wl, gl_wr, gr_wi, gr_wl, gr_wr, sh_wi, sh_wl, sh_wr, gl_cp, gr_cp, sh_cp, gl_rw, gr_rw, sh_rw, gi_rl, gr_rl, sh_rl, Option.toList_some, Option.toList_none, List.nil_append, List.cons_append, List.append_nil, Option.some.injEq, Prod.mk.injEq, and_true, true_and, and_self, if_true, if_false, reduceCtorEq, Nat.reduceLeDiff, Nat.reduceLT, Nat.reduceAdd, Nat.reduceEqDiff, false_and, and_false, exists_const, exists_eq_left, exists_eq_left', exists_and_left, and_assoc, nltL, nltR, nleL, nleR, neqL, neqR, naL, naR, nmL, nmR, nI_ltI, nI_leI, nI_eq, nI_add, nI_mul, nI_clamp, n0l, n0r, nm1, nm1', nm1l, nm1r, nm1g, nsL, nI_m1, Nat.add_sub_cancel, vpn, vpL, nclL, le32, leLL, leLN, leNL, leNN, inA, nb0, nb1, gi_wi_n, gi_wi_e, gi_rw_n, gi_rw_e, aWi_rw, ifl, ifl_, ifle, ifle_, ifq, ifq_, ifnq, ifnq_, ifnl, ifnl_, ifnle, ifnle_, z399 ok]
          refine m_putE ed (by omega) (fun h4 a4 ed4 => ?_)
          simp only [true_or, or_true, or_false, false_or, or_self, Int32.reduceLT, Int32.reduceLE, Nat.add_zero, Nat.zero_add, Nat.not_lt_zero, not_false_eq_true, not_true_eq_false, and_assoc, kl_q, kl_i, kl_r, kl_n, kl_0, kl_l, cs_0, cs_i, cs_r, cs_n, cs_l, aRf_s, aRf_n, gi_wl, gi_wr, gl_wi, gl_wl, gl_wr, gr_wi, gr_wl, gr_wr, sh_wi, sh_wl, sh_wr, gl_cp, gr_cp, sh_cp, gl_rw, gr_rw, sh_rw, gi_rl, gr_rl, sh_rl, Option.toList_some, Option.toList_none, List.nil_append, List.cons_append, List.append_nil, Option.some.injEq, Prod.mk.injEq, and_true, true_and, and_self, if_true, if_false, reduceCtorEq, Nat.reduceLeDiff, Nat.reduceLT, Nat.reduceAdd, Nat.reduceEqDiff, false_and, and_false, exists_const, exists_eq_left, exists_eq_left', exists_and_left, and_assoc]
          exact fin h4 ((b2.trans a3).trans a4) q1 er ed4
        · subst y1
          simp (disch := omega) only [s179_47, s179_48, s179_49, s179_51, s179_54, s179_55, s179_58, s179_59, s179_60, true_or, or_true, or_false, false_or, or_self, Int32.reduceLT, Int32.reduceLE, Nat.add_zero, Nat.zero_add, Nat.not_lt_zero, not_false_eq_true, not_true_eq_false, and_assoc, kl_q, kl_i, kl_r, kl_n, kl_0, kl_l, cs_0, cs_i, cs_r, cs_n, cs_l, aRf_s, aRf_n, gi_wl, gi_wr, gl_wi, gl_wl, gl_wr, gr_wi, gr_wl, gr_wr, sh_wi, sh_wl, sh_wr, gl_cp, gr_cp, sh_cp, gl_rw, gr_rw, sh_rw, gi_rl, gr_rl, sh_rl, Option.toList_some, Option.toList_none, List.nil_append, List.cons_append, List.append_nil, Option.some.injEq, Prod.mk.injEq, and_true, true_and, and_self, if_true, if_false, reduceCtorEq, Nat.reduceLeDiff, Nat.reduceLT, Nat.reduceAdd, Nat.reduceEqDiff, false_and, and_false, exists_const, exists_eq_left, exists_eq_left', exists_and_left, and_assoc, nltL, nltR, nleL, nleR, neqL, neqR, naL, naR, nmL, nmR, nI_ltI, nI_leI, nI_eq, nI_add, nI_mul, nI_clamp, n0l, n0r, nm1, nm1', nm1l, nm1r, nm1g, nsL, nI_m1, Nat.add_sub_cancel, vpn, vpL, nclL, le32, leLL, leLN, leNL, leNN, inA, nb0, nb1, gi_wi_n, gi_wi_e, gi_rw_n, gi_rw_e, aWi_rw, ifl, ifl_, ifle, ifle_, ifq, ifq_, ifnq, ifnq_, ifnl, ifnl_, ifnle, ifnle_, z399 ok]
          refine m_putE ed (by omega) (fun h4 a4 ed4 => ?_)
          simp only [true_or, or_true, or_false, false_or, or_self, Int32.reduceLT, Int32.reduceLE, Nat.add_zero, Nat.zero_add, Nat.not_lt_zero, not_false_eq_true, not_true_eq_false, and_assoc, kl_q, kl_i, kl_r, kl_n, kl_0, kl_l, cs_0, cs_i, cs_r, cs_n, cs_l, aRf_s, aRf_n, gi_wl, gi_wr, gl_wi, gl_wl, gl_wr, gr_wi, gr_wl, gr_wr, sh_wi, sh_wl, sh_wr, gl_cp, gr_cp, sh_cp, gl_rw, gr_rw, sh_rw, gi_rl, gr_rl, sh_rl, Option.toList_some, Option.toList_none, List.nil_append, List.cons_append, List.append_nil, Option.some.injEq, Prod.mk.injEq, and_true, true_and, and_self, if_true, if_false, reduceCtorEq, Nat.reduceLeDiff, Nat.reduceLT, Nat.reduceAdd, Nat.reduceEqDiff, false_and, and_false, exists_const, exists_eq_left, exists_eq_left', exists_and_left, and_assoc]
          exact fin h4 ((b2.trans a3).trans a4) q1 er ed4
      · have ps := pr_pos _ _ _ _ _ e1 (by omega)
        unfold PosR ltM at ps
        simp at ps
        refine i2 e (sk B T p + 1) _ ts sl _ d _ e1 (by omega) he (by omega) rc2 (fun h3 a3 rc3 => ?_)
        have rc3 : RdM h3 B T p1 (ts ++ t1) sl e := rc3
        have ok := rc3.ok
        have l3 : (ts ++ t1).length < 520 := by
          rw [List.length_append]
          omega
        have go : ∀ h4, Ag (ML sl) h3 h4 → RdM h4 B T p1 (ts ++ t1 ++ [(o, 0)]) sl e → AW (d + 12 * (7 - e) + 7) 179 63 [some (.ref 399), some (.int y)] [] h4 Q := by
          intro h4 a4 rc4
          have ok := rc4.ok
          have w4 := rc4.2.2.1
          have l4 : (ts ++ t1 ++ [(o, 0)]).length ≤ p1 := by
            rw [List.length_append, List.length_append, List.length_singleton]
            omega
          simp (disch := omega) only [s179_0, s179_1, s179_4, s179_5, s179_8, s179_9, s179_12, s179_13, s179_16, s179_19, s179_20, s179_22, s179_24, s179_27, s179_28, s179_30, s179_33, s179_34, s179_34i, s179_35, s179_38, s179_39, s179_40, s179_43, s179_44, s179_47, s179_48, s179_49, s179_51, s179_54, s179_55, s179_58, s179_59, s179_60, s179_63, s179_64, s179_67, s179_68, s179_71, s179_72, s179_75, s179_78, s179_79, s179_80, s179_83, true_or, or_true, or_false, false_or, or_self, Int32.reduceLT, Int32.reduceLE, Nat.add_zero, Nat.zero_add, Nat.not_lt_zero, not_false_eq_true, not_true_eq_false, and_assoc, kl_q, kl_i, kl_r, kl_n, kl_0, kl_l, cs_0, cs_i, cs_r, cs_n, cs_l, aRf_s, aRf_n, gi_wl, gi_wr, gl_wi, gl_wl, gl_wr, gr_wi, gr_wl, gr_wr, sh_wi, sh_wl, sh_wr, gl_cp, gr_cp, sh_cp, gl_rw, gr_rw, sh_rw, gi_rl, gr_rl, sh_rl, Option.toList_some, Option.toList_none, List.nil_append, List.cons_append, List.append_nil, Option.some.injEq, Prod.mk.injEq, and_true, true_and, and_self, if_true, if_false, reduceCtorEq, Nat.reduceLeDiff, Nat.reduceLT, Nat.reduceAdd, Nat.reduceEqDiff, false_and, and_false, exists_const, exists_eq_left, exists_eq_left', exists_and_left, and_assoc, nltL, nltR, nleL, nleR, neqL, neqR, naL, naR, nmL, nmR, nI_ltI, nI_leI, nI_eq, nI_add, nI_mul, nI_clamp, n0l, n0r, nm1, nm1', nm1l, nm1r, nm1g, nsL, nI_m1, Nat.add_sub_cancel, vpn, vpL, nclL, le32, leLL, leLN, leNL, leNN, inA, nb0, nb1, gi_wi_n, gi_wi_e, gi_rw_n, gi_rw_e, aWi_rw, ifl, ifl_, ifle, ifle_, ifq, ifq_, ifnq, ifnq_, ifnl, ifnl_, ifnle, ifnle_, z399 ok, w4]
          refine m_lookM rc4.1 ps.2.1 rc4.2.1 (fun h5' a5 f5 => ?_)
          have rc5 := rc4.at a5 f5
          have b5 := ((b2.trans a3).trans a4).trans (a5.mono (fun a k z => ml3 (sl := sl) z))
          simp (disch := omega) only [s179_0, s179_1, s179_4, s179_5, s179_8, s179_9, s179_12, s179_13, s179_16, s179_19, s179_20, s179_22, s179_24, s179_27, s179_28, s179_30, s179_33, s179_34, s179_34i, s179_35, s179_38, s179_39, s179_40, s179_43, s179_44, s179_47, s179_48, s179_49, s179_51, s179_54, s179_55, s179_58, s179_59, s179_60, s179_63, s179_64, s179_67, s179_68, s179_71, s179_72, s179_75, s179_78, s179_79, s179_80, s179_83, true_or, or_true, or_false, false_or, or_self, Int32.reduceLT, Int32.reduceLE, Nat.add_zero, Nat.zero_add, Nat.not_lt_zero, not_false_eq_true, not_true_eq_false, and_assoc, kl_q, kl_i, kl_r, kl_n, kl_0, kl_l, cs_0, cs_i, cs_r, cs_n, cs_l, aRf_s, aRf_n, gi_wl, gi_wr, gl_wi, gl_wl, gl_wr, gr_wi, gr_wl, gr_wr, sh_wi, sh_wl, sh_wr, gl_cp, gr_cp, sh_cp, gl_rw, gr_rw, sh_rw, gi_rl, gr_rl, sh_rl, Option.toList_some, Option.toList_none, List.nil_append, List.cons_append, List.append_nil, Option.some.injEq, Prod.mk.injEq, and_true, true_and, and_self, if_true, if_false, reduceCtorEq, Nat.reduceLeDiff, Nat.reduceLT, Nat.reduceAdd, Nat.reduceEqDiff, false_and, and_false, exists_const, exists_eq_left, exists_eq_left', exists_and_left, and_assoc, nltL, nltR, nleL, nleR, neqL, neqR, naL, naR, nmL, nmR, nI_ltI, nI_leI, nI_eq, nI_add, nI_mul, nI_clamp, n0l, n0r, nm1, nm1', nm1l, nm1r, nm1g, nsL, nI_m1, Nat.add_sub_cancel, vpn, vpL, nclL, le32, leLL, leLN, leNL, leNN, inA, nb0, nb1, gi_wi_n, gi_wi_e, gi_rw_n, gi_rw_e, aWi_rw, ifl, ifl_, ifle, ifle_, ifq, ifq_, ifnq, ifnq_, ifnl, ifnl_, ifnle, ifnle_]
          rcases bnd_of h5 with ⟨q2, e2, rfl⟩ | ⟨p2, t2, e2, h6⟩
          · exact i1 e p1 _ (ts ++ t1 ++ [(o, 0)]) sl _ d _ e2 ps.2.1 he l4 rc5 (fun h6 a6 ed => hq h6 (b5.trans a6) ed)
          · cases h6
            refine i1 e p1 _ (ts ++ t1 ++ [(o, 0)]) sl _ d _ e2 ps.2.1 he l4 rc5 (fun h6 a6 rc6 => hq h6 (b5.trans a6) ?_)
            have rc6 : RdM h6 B T p2 (ts ++ t1 ++ [(o, 0)] ++ t2) sl e := rc6
            have el : ts ++ t1 ++ [(o, 0)] ++ t2 = ts ++ (t1 ++ (o, 0) :: t2) := by simp [List.append_assoc]
            rw [el] at rc6
            exact rc6
        rcases hy2 with ⟨y1, y2⟩ | ⟨⟨y0, y1⟩, y2⟩
        · subst y1
          subst y2
          simp (disch := omega) only [s179_47, s179_48, s179_49, s179_51, s179_54, s179_55, s179_58, s179_59, s179_60, true_or, or_true, or_false, false_or, or_self, Int32.reduceLT, Int32.reduceLE, Nat.add_zero, Nat.zero_add, Nat.not_lt_zero, not_false_eq_true, not_true_eq_false, and_assoc, kl_q, kl_i, kl_r, kl_n, kl_0, kl_l, cs_0, cs_i, cs_r, cs_n, cs_l, aRf_s, aRf_n, gi_wl, gi_wr, gl_wi, gl_wl, gl_wr, gr_wi, gr_wl, gr_wr, sh_wi, sh_wl, sh_wr, gl_cp, gr_cp, sh_cp, gl_rw, gr_rw, sh_rw, gi_rl, gr_rl, sh_rl, Option.toList_some, Option.toList_none, List.nil_append, List.cons_append, List.append_nil, Option.some.injEq, Prod.mk.injEq, and_true, true_and, and_self, if_true, if_false, reduceCtorEq, Nat.reduceLeDiff, Nat.reduceLT, Nat.reduceAdd, Nat.reduceEqDiff, false_and, and_false, exists_const, exists_eq_left, exists_eq_left', exists_and_left, and_assoc, nltL, nltR, nleL, nleR, neqL, neqR, naL, naR, nmL, nmR, nI_ltI, nI_leI, nI_eq, nI_add, nI_mul, nI_clamp, n0l, n0r, nm1, nm1', nm1l, nm1r, nm1g, nsL, nI_m1, Nat.add_sub_cancel, vpn, vpL, nclL, le32, leLL, leLN, leNL, leNN, inA, nb0, nb1, gi_wi_n, gi_wi_e, gi_rw_n, gi_rw_e, aWi_rw, ifl, ifl_, ifle, ifle_, ifq, ifq_, ifnq, ifnq_, ifnl, ifnl_, ifnle, ifnle_, z399 ok]
          refine m_put (c := 2) (v := 0) rc3 l3 (fun h4 a4 rc4 => ?_)
          simp only [true_or, or_true, or_false, false_or, or_self, Int32.reduceLT, Int32.reduceLE, Nat.add_zero, Nat.zero_add, Nat.not_lt_zero, not_false_eq_true, not_true_eq_false, and_assoc, kl_q, kl_i, kl_r, kl_n, kl_0, kl_l, cs_0, cs_i, cs_r, cs_n, cs_l, aRf_s, aRf_n, gi_wl, gi_wr, gl_wi, gl_wl, gl_wr, gr_wi, gr_wl, gr_wr, sh_wi, sh_wl, sh_wr, gl_cp, gr_cp, sh_cp, gl_rw, gr_rw, sh_rw, gi_rl, gr_rl, sh_rl, Option.toList_some, Option.toList_none, List.nil_append, List.cons_append, List.append_nil, Option.some.injEq, Prod.mk.injEq, and_true, true_and, and_self, if_true, if_false, reduceCtorEq, Nat.reduceLeDiff, Nat.reduceLT, Nat.reduceAdd, Nat.reduceEqDiff, false_and, and_false, exists_const, exists_eq_left, exists_eq_left', exists_and_left, and_assoc]
          exact go h4 a4 rc4
        · subst y1
          subst y2
          simp (disch := omega) only [s179_47, s179_48, s179_49, s179_51, s179_54, s179_55, s179_58, s179_59, s179_60, true_or, or_true, or_false, false_or, or_self, Int32.reduceLT, Int32.reduceLE, Nat.add_zero, Nat.zero_add, Nat.not_lt_zero, not_false_eq_true, not_true_eq_false, and_assoc, kl_q, kl_i, kl_r, kl_n, kl_0, kl_l, cs_0, cs_i, cs_r, cs_n, cs_l, aRf_s, aRf_n, gi_wl, gi_wr, gl_wi, gl_wl, gl_wr, gr_wi, gr_wl, gr_wr, sh_wi, sh_wl, sh_wr, gl_cp, gr_cp, sh_cp, gl_rw, gr_rw, sh_rw, gi_rl, gr_rl, sh_rl, Option.toList_some, Option.toList_none, List.nil_append, List.cons_append, List.append_nil, Option.some.injEq, Prod.mk.injEq, and_true, true_and, and_self, if_true, if_false, reduceCtorEq, Nat.reduceLeDiff, Nat.reduceLT, Nat.reduceAdd, Nat.reduceEqDiff, false_and, and_false, exists_const, exists_eq_left, exists_eq_left', exists_and_left, and_assoc, nltL, nltR, nleL, nleR, neqL, neqR, naL, naR, nmL, nmR, nI_ltI, nI_leI, nI_eq, nI_add, nI_mul, nI_clamp, n0l, n0r, nm1, nm1', nm1l, nm1r, nm1g, nsL, nI_m1, Nat.add_sub_cancel, vpn, vpL, nclL, le32, leLL, leLN, leNL, leNN, inA, nb0, nb1, gi_wi_n, gi_wi_e, gi_rw_n, gi_rw_e, aWi_rw, ifl, ifl_, ifle, ifle_, ifq, ifq_, ifnq, ifnq_, ifnl, ifnl_, ifnle, ifnle_, z399 ok]
          refine m_put (c := 3) (v := 0) rc3 l3 (fun h4 a4 rc4 => ?_)
          simp only [true_or, or_true, or_false, false_or, or_self, Int32.reduceLT, Int32.reduceLE, Nat.add_zero, Nat.zero_add, Nat.not_lt_zero, not_false_eq_true, not_true_eq_false, and_assoc, kl_q, kl_i, kl_r, kl_n, kl_0, kl_l, cs_0, cs_i, cs_r, cs_n, cs_l, aRf_s, aRf_n, gi_wl, gi_wr, gl_wi, gl_wl, gl_wr, gr_wi, gr_wl, gr_wr, sh_wi, sh_wl, sh_wr, gl_cp, gr_cp, sh_cp, gl_rw, gr_rw, sh_rw, gi_rl, gr_rl, sh_rl, Option.toList_some, Option.toList_none, List.nil_append, List.cons_append, List.append_nil, Option.some.injEq, Prod.mk.injEq, and_true, true_and, and_self, if_true, if_false, reduceCtorEq, Nat.reduceLeDiff, Nat.reduceLT, Nat.reduceAdd, Nat.reduceEqDiff, false_and, and_false, exists_const, exists_eq_left, exists_eq_left', exists_and_left, and_assoc]
          exact go h4 a4 rc4
    unfold opS at ho
    by_cases b43 : sgB B T (sk B T p) = 43
    · rw [if_pos b43] at ho
      cases ho
      have f43 := l43.mpr b43
      have := more 43 f43 (Or.inl ⟨rfl, rfl⟩)
      rw [f43]
      simp (disch := omega) only [s179_22, s179_24, s179_27, s179_28, s179_30, true_or, or_true, or_false, false_or, or_self, Int32.reduceLT, Int32.reduceLE, Nat.add_zero, Nat.zero_add, Nat.not_lt_zero, not_false_eq_true, not_true_eq_false, and_assoc, kl_q, kl_i, kl_r, kl_n, kl_0, kl_l, cs_0, cs_i, cs_r, cs_n, cs_l, aRf_s, aRf_n, gi_wl, gi_wr, gl_wi, gl_wl, gl_wr, gr_wi, gr_wl, gr_wr, sh_wi, sh_wl, sh_wr, gl_cp, gr_cp, sh_cp, gl_rw, gr_rw, sh_rw, gi_rl, gr_rl, sh_rl, Option.toList_some, Option.toList_none, List.nil_append, List.cons_append, List.append_nil, Option.some.injEq, Prod.mk.injEq, and_true, true_and, and_self, if_true, if_false, reduceCtorEq, Nat.reduceLeDiff, Nat.reduceLT, Nat.reduceAdd, Nat.reduceEqDiff, false_and, and_false, exists_const, exists_eq_left, exists_eq_left', exists_and_left, and_assoc, nltL, nltR, nleL, nleR, neqL, neqR, naL, naR, nmL, nmR, nI_ltI, nI_leI, nI_eq, nI_add, nI_mul, nI_clamp, n0l, n0r, nm1, nm1', nm1l, nm1r, nm1g, nsL, nI_m1, Nat.add_sub_cancel, vpn, vpL, nclL, le32, leLL, leLN, leNL, leNN, inA, nb0, nb1, gi_wi_n, gi_wi_e, gi_rw_n, gi_rw_e, aWi_rw, ifl, ifl_, ifle, ifle_, ifq, ifq_, ifnq, ifnq_, ifnl, ifnl_, ifnle, ifnle_]
      exact this
    · rw [if_neg b43] at ho
      by_cases b45 : sgB B T (sk B T p) = 45
      · rw [if_pos b45] at ho
        cases ho
        have f45 := l45.mpr b45
        have := more 45 f45 (Or.inr ⟨⟨by decide, rfl⟩, rfl⟩)
        rw [f45]
        simp (disch := omega) only [s179_22, s179_24, s179_27, s179_28, s179_30, true_or, or_true, or_false, false_or, or_self, Int32.reduceLT, Int32.reduceLE, Nat.add_zero, Nat.zero_add, Nat.not_lt_zero, not_false_eq_true, not_true_eq_false, and_assoc, kl_q, kl_i, kl_r, kl_n, kl_0, kl_l, cs_0, cs_i, cs_r, cs_n, cs_l, aRf_s, aRf_n, gi_wl, gi_wr, gl_wi, gl_wl, gl_wr, gr_wi, gr_wl, gr_wr, sh_wi, sh_wl, sh_wr, gl_cp, gr_cp, sh_cp, gl_rw, gr_rw, sh_rw, gi_rl, gr_rl, sh_rl, Option.toList_some, Option.toList_none, List.nil_append, List.cons_append, List.append_nil, Option.some.injEq, Prod.mk.injEq, and_true, true_and, and_self, if_true, if_false, reduceCtorEq, Nat.reduceLeDiff, Nat.reduceLT, Nat.reduceAdd, Nat.reduceEqDiff, false_and, and_false, exists_const, exists_eq_left, exists_eq_left', exists_and_left, and_assoc, nltL, nltR, nleL, nleR, neqL, neqR, naL, naR, nmL, nmR, nI_ltI, nI_leI, nI_eq, nI_add, nI_mul, nI_clamp, n0l, n0r, nm1, nm1', nm1l, nm1r, nm1g, nsL, nI_m1, Nat.add_sub_cancel, vpn, vpL, nclL, le32, leLL, leLN, leNL, leNN, inA, nb0, nb1, gi_wi_n, gi_wi_e, gi_rw_n, gi_rw_e, aWi_rw, ifl, ifl_, ifle, ifle_, ifq, ifq_, ifnq, ifnq_, ifnl, ifnl_, ifnle, ifnle_]
        exact this
      · rw [if_neg b45] at ho
        cases ho
theorem simM2 (i2 : SimM B T n 4) (i1 : SimM B T n 3) : SimM B T (n + 1) 2 := by
  intro e p r ts sl h d Q hr hp he hl rc hq
  rw [prE2] at hr
  show AW (d + 12 * (7 - e) + 6) 178 0 [some (.ref 399), none] [] h Q
  have rc : RdM h B T p ts sl e := rc
  have hT := rc.1.2.1
  have ok := rc.ok
  simp (disch := omega) only [s178_0, s178_1, s178_4, s178_5, s178_8, s178_9, s178_12, s178_13, s178_16, s178_19, s178_20, s178_22, s178_24, s178_27, s178_28, s178_30, s178_33, s178_34, s178_34i, s178_35, s178_38, s178_39, s178_40, s178_43, s178_44, s178_47, s178_48, s178_49, s178_51, s178_54, s178_55, s178_58, s178_59, s178_60, s178_63, s178_64, s178_67, s178_68, s178_71, s178_72, s178_75, s178_78, s178_79, s178_80, s178_83, true_or, or_true, or_false, false_or, or_self, Int32.reduceLT, Int32.reduceLE, Nat.add_zero, Nat.zero_add, Nat.not_lt_zero, not_false_eq_true, not_true_eq_false, and_assoc, kl_q, kl_i, kl_r, kl_n, kl_0, kl_l, cs_0, cs_i, cs_r, cs_n, cs_l, aRf_s, aRf_n, gi_wl, gi_wr, gl_wi, gl_wl, gl_wr, gr_wi, gr_wl, gr_wr, sh_wi, sh_wl, sh_wr, gl_cp, gr_cp, sh_cp, gl_rw, gr_rw, sh_rw, gi_rl, gr_rl, sh_rl, Option.toList_some, Option.toList_none, List.nil_append, List.cons_append, List.append_nil, Option.some.injEq, Prod.mk.injEq, and_true, true_and, and_self, if_true, if_false, reduceCtorEq, Nat.reduceLeDiff, Nat.reduceLT, Nat.reduceAdd, Nat.reduceEqDiff, false_and, and_false, exists_const, exists_eq_left, exists_eq_left', exists_and_left, and_assoc, nltL, nltR, nleL, nleR, neqL, neqR, naL, naR, nmL, nmR, nI_ltI, nI_leI, nI_eq, nI_add, nI_mul, nI_clamp, n0l, n0r, nm1, nm1', nm1l, nm1r, nm1g, nsL, nI_m1, Nat.add_sub_cancel, vpn, vpL, nclL, le32, leLL, leLN, leNL, leNN, inA, nb0, nb1, gi_wi_n, gi_wi_e, gi_rw_n, gi_rw_e, aWi_rw, ifl, ifl_, ifle, ifle_, ifq, ifq_, ifnq, ifnq_, ifnl, ifnl_, ifnle, ifnle_, z399 ok]
  rcases bnd_of hr with ⟨q1, e1, rfl⟩ | ⟨p1, t1, e1, h5⟩
  · have ps := pr_pos _ _ _ _ _ e1 hp
    unfold PosR at ps
    simp only at ps
    refine i2 e p _ ts sl _ d _ e1 hp he hl rc (fun h3 a3 ed => ?_)
    have ed : EdM h3 sl q1 (250 + 10 * (7 - e) + 0) := ed
    have ok := ed.1
    have w3 := ed.n1 (by omega)
    simp (disch := omega) only [s178_0, s178_1, s178_4, s178_5, s178_8, s178_9, s178_12, s178_13, s178_16, s178_19, s178_20, s178_22, s178_24, s178_27, s178_28, s178_30, s178_33, s178_34, s178_34i, s178_35, s178_38, s178_39, s178_40, s178_43, s178_44, s178_47, s178_48, s178_49, s178_51, s178_54, s178_55, s178_58, s178_59, s178_60, s178_63, s178_64, s178_67, s178_68, s178_71, s178_72, s178_75, s178_78, s178_79, s178_80, s178_83, true_or, or_true, or_false, false_or, or_self, Int32.reduceLT, Int32.reduceLE, Nat.add_zero, Nat.zero_add, Nat.not_lt_zero, not_false_eq_true, not_true_eq_false, and_assoc, kl_q, kl_i, kl_r, kl_n, kl_0, kl_l, cs_0, cs_i, cs_r, cs_n, cs_l, aRf_s, aRf_n, gi_wl, gi_wr, gl_wi, gl_wl, gl_wr, gr_wi, gr_wl, gr_wr, sh_wi, sh_wl, sh_wr, gl_cp, gr_cp, sh_cp, gl_rw, gr_rw, sh_rw, gi_rl, gr_rl, sh_rl, Option.toList_some, Option.toList_none, List.nil_append, List.cons_append, List.append_nil, Option.some.injEq, Prod.mk.injEq, and_true, true_and, and_self, if_true, if_false, reduceCtorEq, Nat.reduceLeDiff, Nat.reduceLT, Nat.reduceAdd, Nat.reduceEqDiff, false_and, and_false, exists_const, exists_eq_left, exists_eq_left', exists_and_left, and_assoc, nltL, nltR, nleL, nleR, neqL, neqR, naL, naR, nmL, nmR, nI_ltI, nI_leI, nI_eq, nI_add, nI_mul, nI_clamp, n0l, n0r, nm1, nm1', nm1l, nm1r, nm1g, nsL, nI_m1, Nat.add_sub_cancel, vpn, vpL, nclL, le32, leLL, leLN, leNL, leNN, inA, nb0, nb1, gi_wi_n, gi_wi_e, gi_rw_n, gi_rw_e, aWi_rw, ifl, ifl_, ifle, ifle_, ifq, ifq_, ifnq, ifnq_, ifnl, ifnl_, ifnle, ifnle_, z399 ok, w3]
    rw [s178_21]
    simp (disch := omega) only [s178_0, s178_1, s178_4, s178_5, s178_8, s178_9, s178_12, s178_13, s178_16, s178_19, s178_20, s178_22, s178_24, s178_27, s178_28, s178_30, s178_33, s178_34, s178_34i, s178_35, s178_38, s178_39, s178_40, s178_43, s178_44, s178_47, s178_48, s178_49, s178_51, s178_54, s178_55, s178_58, s178_59, s178_60, s178_63, s178_64, s178_67, s178_68, s178_71, s178_72, s178_75, s178_78, s178_79, s178_80, s178_83, true_or, or_true, or_false, false_or, or_self, Int32.reduceLT, Int32.reduceLE, Nat.add_zero, Nat.zero_add, Nat.not_lt_zero, not_false_eq_true, not_true_eq_false, and_assoc, kl_q, kl_i, kl_r, kl_n, kl_0, kl_l, cs_0, cs_i, cs_r, cs_n, cs_l, aRf_s, aRf_n, gi_wl, gi_wr, gl_wi, gl_wl, gl_wr, gr_wi, gr_wl, gr_wr, sh_wi, sh_wl, sh_wr, gl_cp, gr_cp, sh_cp, gl_rw, gr_rw, sh_rw, gi_rl, gr_rl, sh_rl, Option.toList_some, Option.toList_none, List.nil_append, List.cons_append, List.append_nil, Option.some.injEq, Prod.mk.injEq, and_true, true_and, and_self, if_true, if_false, reduceCtorEq, Nat.reduceLeDiff, Nat.reduceLT, Nat.reduceAdd, Nat.reduceEqDiff, false_and, and_false, exists_const, exists_eq_left, exists_eq_left', exists_and_left, and_assoc, nltL, nltR, nleL, nleR, neqL, neqR, naL, naR, nmL, nmR, nI_ltI, nI_leI, nI_eq, nI_add, nI_mul, nI_clamp, n0l, n0r, nm1, nm1', nm1l, nm1r, nm1g, nsL, nI_m1, Nat.add_sub_cancel, vpn, vpL, nclL, le32, leLL, leLN, leNL, leNN, inA, nb0, nb1, gi_wi_n, gi_wi_e, gi_rw_n, gi_rw_e, aWi_rw, ifl, ifl_, ifle, ifle_, ifq, ifq_, ifnq, ifnq_, ifnl, ifnl_, ifnle, ifnle_]
    refine hq h3 a3 (EdM.mono ed ?_)
    show _ ≤ 250 + 10 * (7 - e) + 1
    omega
  · have ps := pr_pos _ _ _ _ _ e1 hp
    unfold PosR ltM at ps
    simp at ps
    refine i2 e p _ ts sl _ d _ e1 hp he hl rc (fun h3 a3 rc3 => ?_)
    have rc3 : RdM h3 B T p1 (ts ++ t1) sl e := rc3
    have ok := rc3.ok
    have w3 := rc3.2.2.1
    have l3 : (ts ++ t1).length ≤ p1 := by
      rw [List.length_append]
      omega
    simp (disch := omega) only [s178_0, s178_1, s178_4, s178_5, s178_8, s178_9, s178_12, s178_13, s178_16, s178_19, s178_20, s178_22, s178_24, s178_27, s178_28, s178_30, s178_33, s178_34, s178_34i, s178_35, s178_38, s178_39, s178_40, s178_43, s178_44, s178_47, s178_48, s178_49, s178_51, s178_54, s178_55, s178_58, s178_59, s178_60, s178_63, s178_64, s178_67, s178_68, s178_71, s178_72, s178_75, s178_78, s178_79, s178_80, s178_83, true_or, or_true, or_false, false_or, or_self, Int32.reduceLT, Int32.reduceLE, Nat.add_zero, Nat.zero_add, Nat.not_lt_zero, not_false_eq_true, not_true_eq_false, and_assoc, kl_q, kl_i, kl_r, kl_n, kl_0, kl_l, cs_0, cs_i, cs_r, cs_n, cs_l, aRf_s, aRf_n, gi_wl, gi_wr, gl_wi, gl_wl, gl_wr, gr_wi, gr_wl, gr_wr, sh_wi, sh_wl, sh_wr, gl_cp, gr_cp, sh_cp, gl_rw, gr_rw, sh_rw, gi_rl, gr_rl, sh_rl, Option.toList_some, Option.toList_none, List.nil_append, List.cons_append, List.append_nil, Option.some.injEq, Prod.mk.injEq, and_true, true_and, and_self, if_true, if_false, reduceCtorEq, Nat.reduceLeDiff, Nat.reduceLT, Nat.reduceAdd, Nat.reduceEqDiff, false_and, and_false, exists_const, exists_eq_left, exists_eq_left', exists_and_left, and_assoc, nltL, nltR, nleL, nleR, neqL, neqR, naL, naR, nmL, nmR, nI_ltI, nI_leI, nI_eq, nI_add, nI_mul, nI_clamp, n0l, n0r, nm1, nm1', nm1l, nm1r, nm1g, nsL, nI_m1, Nat.add_sub_cancel, vpn, vpL, nclL, le32, leLL, leLN, leNL, leNN, inA, nb0, nb1, gi_wi_n, gi_wi_e, gi_rw_n, gi_rw_e, aWi_rw, ifl, ifl_, ifle, ifle_, ifq, ifq_, ifnq, ifnq_, ifnl, ifnl_, ifnle, ifnle_, z399 ok, w3]
    refine m_lookM rc3.1 ps.2.1 rc3.2.1 (fun h4 a4 f4 => ?_)
    have rc4 := rc3.at a4 f4
    have b4 := a3.trans (a4.mono (fun a k z => ml3 (sl := sl) z))
    simp (disch := omega) only [s178_0, s178_1, s178_4, s178_5, s178_8, s178_9, s178_12, s178_13, s178_16, s178_19, s178_20, s178_22, s178_24, s178_27, s178_28, s178_30, s178_33, s178_34, s178_34i, s178_35, s178_38, s178_39, s178_40, s178_43, s178_44, s178_47, s178_48, s178_49, s178_51, s178_54, s178_55, s178_58, s178_59, s178_60, s178_63, s178_64, s178_67, s178_68, s178_71, s178_72, s178_75, s178_78, s178_79, s178_80, s178_83, true_or, or_true, or_false, false_or, or_self, Int32.reduceLT, Int32.reduceLE, Nat.add_zero, Nat.zero_add, Nat.not_lt_zero, not_false_eq_true, not_true_eq_false, and_assoc, kl_q, kl_i, kl_r, kl_n, kl_0, kl_l, cs_0, cs_i, cs_r, cs_n, cs_l, aRf_s, aRf_n, gi_wl, gi_wr, gl_wi, gl_wl, gl_wr, gr_wi, gr_wl, gr_wr, sh_wi, sh_wl, sh_wr, gl_cp, gr_cp, sh_cp, gl_rw, gr_rw, sh_rw, gi_rl, gr_rl, sh_rl, Option.toList_some, Option.toList_none, List.nil_append, List.cons_append, List.append_nil, Option.some.injEq, Prod.mk.injEq, and_true, true_and, and_self, if_true, if_false, reduceCtorEq, Nat.reduceLeDiff, Nat.reduceLT, Nat.reduceAdd, Nat.reduceEqDiff, false_and, and_false, exists_const, exists_eq_left, exists_eq_left', exists_and_left, and_assoc, nltL, nltR, nleL, nleR, neqL, neqR, naL, naR, nmL, nmR, nI_ltI, nI_leI, nI_eq, nI_add, nI_mul, nI_clamp, n0l, n0r, nm1, nm1', nm1l, nm1r, nm1g, nsL, nI_m1, Nat.add_sub_cancel, vpn, vpL, nclL, le32, leLL, leLN, leNL, leNN, inA, nb0, nb1, gi_wi_n, gi_wi_e, gi_rw_n, gi_rw_e, aWi_rw, ifl, ifl_, ifle, ifle_, ifq, ifq_, ifnq, ifnq_, ifnl, ifnl_, ifnle, ifnle_]
    rcases bnd_of h5 with ⟨q2, e2, rfl⟩ | ⟨p2, t2, e2, h6⟩
    · exact i1 e p1 _ (ts ++ t1) sl _ d _ e2 ps.2.1 he l3 rc4 (fun h5 a5 ed => hq h5 (b4.trans a5) ed)
    · cases h6
      refine i1 e p1 _ (ts ++ t1) sl _ d _ e2 ps.2.1 he l3 rc4 (fun h5 a5 rc5 => hq h5 (b4.trans a5) ?_)
      have rc5 : RdM h5 B T p2 (ts ++ t1 ++ t2) sl e := rc5
      rw [List.append_assoc] at rc5
      exact rc5
theorem simM3 (i2 : SimM B T n 4) (i1 : SimM B T n 3) : SimM B T (n + 1) 3 := by
  intro e p r ts sl h d Q hr hp he hl rc hq
  rw [prE3] at hr
  show AW (d + 12 * (7 - e) + 6) 178 21 [some (.ref 399), some (.int (lkI B T (sk B T p)))] [] h Q
  have rc : RdM h B T (sk B T p) ts sl e := rc
  have hs := sk_le (B := B) hp
  have hT := rc.1.2.1
  have hbb := rc.1.2.2.2.2
  have ok := rc.ok
  have l42 := lk_sg (q := sk B T p) hbb (b := 42) (by omega) (by omega)
  rw [show nI 42 = (42 : Int32) from rfl] at l42
  have l47 := lk_sg (q := sk B T p) hbb (b := 47) (by omega) (by omega)
  rw [show nI 47 = (47 : Int32) from rfl] at l47
  rw [s178_21]
  cases ho : opT (sgB B T (sk B T p)) with
  | none =>
    rw [ho] at hr
    cases hr
    have n42 : ¬ lkI B T (sk B T p) = 42 := fun q => by
      rw [l42.mp q] at ho
      cases ho
    have n47 : ¬ lkI B T (sk B T p) = 47 := fun q => by
      rw [l47.mp q] at ho
      cases ho
    simp (disch := omega) only [s178_0, s178_1, s178_4, s178_5, s178_8, s178_9, s178_12, s178_13, s178_16, s178_19, s178_20, s178_22, s178_24, s178_27, s178_28, s178_30, s178_33, s178_34, s178_34i, s178_35, s178_38, s178_39, s178_40, s178_43, s178_44, s178_47, s178_48, s178_49, s178_51, s178_54, s178_55, s178_58, s178_59, s178_60, s178_63, s178_64, s178_67, s178_68, s178_71, s178_72, s178_75, s178_78, s178_79, s178_80, s178_83, true_or, or_true, or_false, false_or, or_self, Int32.reduceLT, Int32.reduceLE, Nat.add_zero, Nat.zero_add, Nat.not_lt_zero, not_false_eq_true, not_true_eq_false, and_assoc, kl_q, kl_i, kl_r, kl_n, kl_0, kl_l, cs_0, cs_i, cs_r, cs_n, cs_l, aRf_s, aRf_n, gi_wl, gi_wr, gl_wi, gl_wl, gl_wr, gr_wi, gr_wl, gr_wr, sh_wi, sh_wl, sh_wr, gl_cp, gr_cp, sh_cp, gl_rw, gr_rw, sh_rw, gi_rl, gr_rl, sh_rl, Option.toList_some, Option.toList_none, List.nil_append, List.cons_append, List.append_nil, Option.some.injEq, Prod.mk.injEq, and_true, true_and, and_self, if_true, if_false, reduceCtorEq, Nat.reduceLeDiff, Nat.reduceLT, Nat.reduceAdd, Nat.reduceEqDiff, false_and, and_false, exists_const, exists_eq_left, exists_eq_left', exists_and_left, and_assoc, nltL, nltR, nleL, nleR, neqL, neqR, naL, naR, nmL, nmR, nI_ltI, nI_leI, nI_eq, nI_add, nI_mul, nI_clamp, n0l, n0r, nm1, nm1', nm1l, nm1r, nm1g, nsL, nI_m1, Nat.add_sub_cancel, vpn, vpL, nclL, le32, leLL, leLN, leNL, leNN, inA, nb0, nb1, gi_wi_n, gi_wi_e, gi_rw_n, gi_rw_e, aWi_rw, ifl, ifl_, ifle, ifle_, ifq, ifq_, ifnq, ifnq_, ifnl, ifnl_, ifnle, ifnle_, n42, n47]
    refine hq h (Ag.refl ok) ?_
    show RdM h B T (sk B T p) (ts ++ []) sl e
    rw [List.append_nil]
    exact rc
  | some o =>
    have hq1 := opT_lt ho
    rw [ho] at hr
    simp only at hr
    have more : ∀ y : Int32, lkI B T (sk B T p) = y → (y = 42 ∧ o = 4 ∨ (¬ y = 42 ∧ y = 47) ∧ o = 5) → AW (d + 12 * (7 - e) + 6) 178 33 [some (.ref 399), some (.int y)] [] h Q := by
      intro y hy hy2
      simp (disch := omega) only [s178_33, s178_34, s178_34i, s178_35, s178_38, s178_39, s178_40, s178_43, s178_44, true_or, or_true, or_false, false_or, or_self, Int32.reduceLT, Int32.reduceLE, Nat.add_zero, Nat.zero_add, Nat.not_lt_zero, not_false_eq_true, not_true_eq_false, and_assoc, kl_q, kl_i, kl_r, kl_n, kl_0, kl_l, cs_0, cs_i, cs_r, cs_n, cs_l, aRf_s, aRf_n, gi_wl, gi_wr, gl_wi, gl_wl, gl_wr, gr_wi, gr_wl, gr_wr, sh_wi, sh_wl, sh_wr, gl_cp, gr_cp, sh_cp, gl_rw, gr_rw, sh_rw, gi_rl, gr_rl, sh_rl, Option.toList_some, Option.toList_none, List.nil_append, List.cons_append, List.append_nil, Option.some.injEq, Prod.mk.injEq, and_true, true_and, and_self, if_true, if_false, reduceCtorEq, Nat.reduceLeDiff, Nat.reduceLT, Nat.reduceAdd, Nat.reduceEqDiff, false_and, and_false, exists_const, exists_eq_left, exists_eq_left', exists_and_left, and_assoc, nltL, nltR, nleL, nleR, neqL, neqR, naL, naR, nmL, nmR, nI_ltI, nI_leI, nI_eq, nI_add, nI_mul, nI_clamp, n0l, n0r, nm1, nm1', nm1l, nm1r, nm1g, nsL, nI_m1, Nat.add_sub_cancel, vpn, vpL, nclL, le32, leLL, leLN, leNL, leNN, inA, nb0, nb1, gi_wi_n, gi_wi_e, gi_rw_n, gi_rw_e, aWi_rw, ifl, ifl_, ifle, ifle_, ifq, ifq_, ifnq, ifnq_, ifnl, ifnl_, ifnle, ifnle_, z399 ok, rc.2.1]
      have rc2 : RdM (aWi h 399 3 (nI (sk B T p + 1))) B T (sk B T p + 1) ts sl e := rc.at ((Ag.refl ok).wi ⟨rfl, rfl⟩) gi_wi_e
      have b2 : Ag (ML sl) h (aWi h 399 3 (nI (sk B T p + 1))) := (Ag.refl ok).wi (ml3 ⟨rfl, rfl⟩)
      have fin : ∀ h3, Ag (ML sl) h h3 → (∀ q, r = .inl q → EdM h3 sl q (250 + 10 * (7 - e) + 1) → AW (d + 12 * (7 - e) + 6) 178 63 [some (.ref 399), some (.int y)] [] h3 Q) := by
        intro h3 a3 q er ed
        have ok := ed.1
        have hq9 : q ≤ T := by
          have := pr_pos (n + 1) 3 e p r (by rw [prE3, ho]; exact hr) hp
          rw [er] at this
          exact this.2
        have w3 := ed.n1 (by omega)
        simp (disch := omega) only [s178_0, s178_1, s178_4, s178_5, s178_8, s178_9, s178_12, s178_13, s178_16, s178_19, s178_20, s178_22, s178_24, s178_27, s178_28, s178_30, s178_33, s178_34, s178_34i, s178_35, s178_38, s178_39, s178_40, s178_43, s178_44, s178_47, s178_48, s178_49, s178_51, s178_54, s178_55, s178_58, s178_59, s178_60, s178_63, s178_64, s178_67, s178_68, s178_71, s178_72, s178_75, s178_78, s178_79, s178_80, s178_83, true_or, or_true, or_false, false_or, or_self, Int32.reduceLT, Int32.reduceLE, Nat.add_zero, Nat.zero_add, Nat.not_lt_zero, not_false_eq_true, not_true_eq_false, and_assoc, kl_q, kl_i, kl_r, kl_n, kl_0, kl_l, cs_0, cs_i, cs_r, cs_n, cs_l, aRf_s, aRf_n, gi_wl, gi_wr, gl_wi, gl_wl, gl_wr, gr_wi, gr_wl, gr_wr, sh_wi, sh_wl, sh_wr, gl_cp, gr_cp, sh_cp, gl_rw, gr_rw, sh_rw, gi_rl, gr_rl, sh_rl, Option.toList_some, Option.toList_none, List.nil_append, List.cons_append, List.append_nil, Option.some.injEq, Prod.mk.injEq, and_true, true_and, and_self, if_true, if_false, reduceCtorEq, Nat.reduceLeDiff, Nat.reduceLT, Nat.reduceAdd, Nat.reduceEqDiff, false_and, and_false, exists_const, exists_eq_left, exists_eq_left', exists_and_left, and_assoc, nltL, nltR, nleL, nleR, neqL, neqR, naL, naR, nmL, nmR, nI_ltI, nI_leI, nI_eq, nI_add, nI_mul, nI_clamp, n0l, n0r, nm1, nm1', nm1l, nm1r, nm1g, nsL, nI_m1, Nat.add_sub_cancel, vpn, vpL, nclL, le32, leLL, leLN, leNL, leNN, inA, nb0, nb1, gi_wi_n, gi_wi_e, gi_rw_n, gi_rw_e, aWi_rw, ifl, ifl_, ifle, ifle_, ifq, ifq_, ifnq, ifnq_, ifnl, ifnl_, ifnle, ifnle_, z399 ok, w3]
        rw [s178_21]
        simp (disch := omega) only [s178_0, s178_1, s178_4, s178_5, s178_8, s178_9, s178_12, s178_13, s178_16, s178_19, s178_20, s178_22, s178_24, s178_27, s178_28, s178_30, s178_33, s178_34, s178_34i, s178_35, s178_38, s178_39, s178_40, s178_43, s178_44, s178_47, s178_48, s178_49, s178_51, s178_54, s178_55, s178_58, s178_59, s178_60, s178_63, s178_64, s178_67, s178_68, s178_71, s178_72, s178_75, s178_78, s178_79, s178_80, s178_83, true_or, or_true, or_false, false_or, or_self, Int32.reduceLT, Int32.reduceLE, Nat.add_zero, Nat.zero_add, Nat.not_lt_zero, not_false_eq_true, not_true_eq_false, and_assoc, kl_q, kl_i, kl_r, kl_n, kl_0, kl_l, cs_0, cs_i, cs_r, cs_n, cs_l, aRf_s, aRf_n, gi_wl, gi_wr, gl_wi, gl_wl, gl_wr, gr_wi, gr_wl, gr_wr, sh_wi, sh_wl, sh_wr, gl_cp, gr_cp, sh_cp, gl_rw, gr_rw, sh_rw, gi_rl, gr_rl, sh_rl, Option.toList_some, Option.toList_none, List.nil_append, List.cons_append, List.append_nil, Option.some.injEq, Prod.mk.injEq, and_true, true_and, and_self, if_true, if_false, reduceCtorEq, Nat.reduceLeDiff, Nat.reduceLT, Nat.reduceAdd, Nat.reduceEqDiff, false_and, and_false, exists_const, exists_eq_left, exists_eq_left', exists_and_left, and_assoc, nltL, nltR, nleL, nleR, neqL, neqR, naL, naR, nmL, nmR, nI_ltI, nI_leI, nI_eq, nI_add, nI_mul, nI_clamp, n0l, n0r, nm1, nm1', nm1l, nm1r, nm1g, nsL, nI_m1, Nat.add_sub_cancel, vpn, vpL, nclL, le32, leLL, leLN, leNL, leNN, inA, nb0, nb1, gi_wi_n, gi_wi_e, gi_rw_n, gi_rw_e, aWi_rw, ifl, ifl_, ifle, ifle_, ifq, ifq_, ifnq, ifnq_, ifnl, ifnl_, ifnle, ifnle_]
        rw [er] at hq
        exact hq h3 a3 ed
      rcases bnd_of hr with ⟨q1, e1, er⟩ | ⟨p1, t1, e1, h5⟩
      · have ps := pr_pos _ _ _ _ _ e1 (by omega)
        unfold PosR at ps
        simp only at ps
        refine i2 e (sk B T p + 1) _ ts sl _ d _ e1 (by omega) he (by omega) rc2 (fun h3 a3 ed => ?_)
        have ed : EdM h3 sl q1 (250 + 10 * (7 - e) + 0) := ed
        have ok := ed.1
        rcases hy2 with ⟨y1, y2⟩ | ⟨⟨y0, y1⟩, y2⟩
        · subst y1
          simp (disch := omega) only [s178_47, s178_48, s178_49, s178_51, s178_54, s178_55, s178_58, s178_59, s178_60, true_or, or_true, or_false, false_or, or_self, Int32.reduceLT, Int32.reduceLE, Nat.add_zero, Nat.zero_add, Nat.not_lt_zero, not_false_eq_true, not_true_eq_false, and_assoc, kl_q, kl_i, kl_r, kl_n, kl_0, kl_l, cs_0, cs_i, cs_r, cs_n, cs_l, aRf_s, aRf_n, gi_wl, gi_wr, gl_wi, gl_wl, gl_wr, gr_wi, gr_wl, gr_wr, sh_wi, sh_wl, sh_wr, gl_cp, gr_cp, sh_cp, gl_rw, gr_rw, sh_rw, gi_rl, gr_rl, sh_rl, Option.toList_some, Option.toList_none, List.nil_append, List.cons_append, List.append_nil, Option.some.injEq, Prod.mk.injEq, and_true, true_and, and_self, if_true, if_false, reduceCtorEq, Nat.reduceLeDiff, Nat.reduceLT, Nat.reduceAdd, Nat.reduceEqDiff, false_and, and_false, exists_const, exists_eq_left, exists_eq_left', exists_and_left, and_assoc, nltL, nltR, nleL, nleR, neqL, neqR, naL, naR, nmL, nmR, nI_ltI, nI_leI, nI_eq, nI_add, nI_mul, nI_clamp, n0l, n0r, nm1, nm1', nm1l, nm1r, nm1g, nsL, nI_m1, Nat.add_sub_cancel, vpn, vpL, nclL, le32, leLL, leLN, leNL, leNN, inA, nb0, nb1, gi_wi_n, gi_wi_e, gi_rw_n, gi_rw_e, aWi_rw, ifl, ifl_, ifle, ifle_, ifq, ifq_, ifnq, ifnq_, ifnl, ifnl_, ifnle, ifnle_, z399 ok]
          refine m_putE ed (by omega) (fun h4 a4 ed4 => ?_)
          simp only [true_or, or_true, or_false, false_or, or_self, Int32.reduceLT, Int32.reduceLE, Nat.add_zero, Nat.zero_add, Nat.not_lt_zero, not_false_eq_true, not_true_eq_false, and_assoc, kl_q, kl_i, kl_r, kl_n, kl_0, kl_l, cs_0, cs_i, cs_r, cs_n, cs_l, aRf_s, aRf_n, gi_wl, gi_wr, gl_wi, gl_wl, gl_wr, gr_wi, gr_wl, gr_wr, sh_wi, sh_wl, sh_wr, gl_cp, gr_cp, sh_cp, gl_rw, gr_rw, sh_rw, gi_rl, gr_rl, sh_rl, Option.toList_some, Option.toList_none, List.nil_append, List.cons_append, List.append_nil, Option.some.injEq, Prod.mk.injEq, and_true, true_and, and_self, if_true, if_false, reduceCtorEq, Nat.reduceLeDiff, Nat.reduceLT, Nat.reduceAdd, Nat.reduceEqDiff, false_and, and_false, exists_const, exists_eq_left, exists_eq_left', exists_and_left, and_assoc]
          exact fin h4 ((b2.trans a3).trans a4) q1 er ed4
        · subst y1
          simp (disch := omega) only [s178_47, s178_48, s178_49, s178_51, s178_54, s178_55, s178_58, s178_59, s178_60, true_or, or_true, or_false, false_or, or_self, Int32.reduceLT, Int32.reduceLE, Nat.add_zero, Nat.zero_add, Nat.not_lt_zero, not_false_eq_true, not_true_eq_false, and_assoc, kl_q, kl_i, kl_r, kl_n, kl_0, kl_l, cs_0, cs_i, cs_r, cs_n, cs_l, aRf_s, aRf_n, gi_wl, gi_wr, gl_wi, gl_wl, gl_wr, gr_wi, gr_wl, gr_wr, sh_wi, sh_wl, sh_wr, gl_cp, gr_cp, sh_cp, gl_rw, gr_rw, sh_rw, gi_rl, gr_rl, sh_rl, Option.toList_some, Option.toList_none, List.nil_append, List.cons_append, List.append_nil, Option.some.injEq, Prod.mk.injEq, and_true, true_and, and_self, if_true, if_false, reduceCtorEq, Nat.reduceLeDiff, Nat.reduceLT, Nat.reduceAdd, Nat.reduceEqDiff, false_and, and_false, exists_const, exists_eq_left, exists_eq_left', exists_and_left, and_assoc, nltL, nltR, nleL, nleR, neqL, neqR, naL, naR, nmL, nmR, nI_ltI, nI_leI, nI_eq, nI_add, nI_mul, nI_clamp, n0l, n0r, nm1, nm1', nm1l, nm1r, nm1g, nsL, nI_m1, Nat.add_sub_cancel, vpn, vpL, nclL, le32, leLL, leLN, leNL, leNN, inA, nb0, nb1, gi_wi_n, gi_wi_e, gi_rw_n, gi_rw_e, aWi_rw, ifl, ifl_, ifle, ifle_, ifq, ifq_, ifnq, ifnq_, ifnl, ifnl_, ifnle, ifnle_, z399 ok]
          refine m_putE ed (by omega) (fun h4 a4 ed4 => ?_)
          simp only [true_or, or_true, or_false, false_or, or_self, Int32.reduceLT, Int32.reduceLE, Nat.add_zero, Nat.zero_add, Nat.not_lt_zero, not_false_eq_true, not_true_eq_false, and_assoc, kl_q, kl_i, kl_r, kl_n, kl_0, kl_l, cs_0, cs_i, cs_r, cs_n, cs_l, aRf_s, aRf_n, gi_wl, gi_wr, gl_wi, gl_wl, gl_wr, gr_wi, gr_wl, gr_wr, sh_wi, sh_wl, sh_wr, gl_cp, gr_cp, sh_cp, gl_rw, gr_rw, sh_rw, gi_rl, gr_rl, sh_rl, Option.toList_some, Option.toList_none, List.nil_append, List.cons_append, List.append_nil, Option.some.injEq, Prod.mk.injEq, and_true, true_and, and_self, if_true, if_false, reduceCtorEq, Nat.reduceLeDiff, Nat.reduceLT, Nat.reduceAdd, Nat.reduceEqDiff, false_and, and_false, exists_const, exists_eq_left, exists_eq_left', exists_and_left, and_assoc]
          exact fin h4 ((b2.trans a3).trans a4) q1 er ed4
      · have ps := pr_pos _ _ _ _ _ e1 (by omega)
        unfold PosR ltM at ps
        simp at ps
        refine i2 e (sk B T p + 1) _ ts sl _ d _ e1 (by omega) he (by omega) rc2 (fun h3 a3 rc3 => ?_)
        have rc3 : RdM h3 B T p1 (ts ++ t1) sl e := rc3
        have ok := rc3.ok
        have l3 : (ts ++ t1).length < 520 := by
          rw [List.length_append]
          omega
        have go : ∀ h4, Ag (ML sl) h3 h4 → RdM h4 B T p1 (ts ++ t1 ++ [(o, 0)]) sl e → AW (d + 12 * (7 - e) + 6) 178 63 [some (.ref 399), some (.int y)] [] h4 Q := by
          intro h4 a4 rc4
          have ok := rc4.ok
          have w4 := rc4.2.2.1
          have l4 : (ts ++ t1 ++ [(o, 0)]).length ≤ p1 := by
            rw [List.length_append, List.length_append, List.length_singleton]
            omega
          simp (disch := omega) only [s178_0, s178_1, s178_4, s178_5, s178_8, s178_9, s178_12, s178_13, s178_16, s178_19, s178_20, s178_22, s178_24, s178_27, s178_28, s178_30, s178_33, s178_34, s178_34i, s178_35, s178_38, s178_39, s178_40, s178_43, s178_44, s178_47, s178_48, s178_49, s178_51, s178_54, s178_55, s178_58, s178_59, s178_60, s178_63, s178_64, s178_67, s178_68, s178_71, s178_72, s178_75, s178_78, s178_79, s178_80, s178_83, true_or, or_true, or_false, false_or, or_self, Int32.reduceLT, Int32.reduceLE, Nat.add_zero, Nat.zero_add, Nat.not_lt_zero, not_false_eq_true, not_true_eq_false, and_assoc, kl_q, kl_i, kl_r, kl_n, kl_0, kl_l, cs_0, cs_i, cs_r, cs_n, cs_l, aRf_s, aRf_n, gi_wl, gi_wr, gl_wi, gl_wl, gl_wr, gr_wi, gr_wl, gr_wr, sh_wi, sh_wl, sh_wr, gl_cp, gr_cp, sh_cp, gl_rw, gr_rw, sh_rw, gi_rl, gr_rl, sh_rl, Option.toList_some, Option.toList_none, List.nil_append, List.cons_append, List.append_nil, Option.some.injEq, Prod.mk.injEq, and_true, true_and, and_self, if_true, if_false, reduceCtorEq, Nat.reduceLeDiff, Nat.reduceLT, Nat.reduceAdd, Nat.reduceEqDiff, false_and, and_false, exists_const, exists_eq_left, exists_eq_left', exists_and_left, and_assoc, nltL, nltR, nleL, nleR, neqL, neqR, naL, naR, nmL, nmR, nI_ltI, nI_leI, nI_eq, nI_add, nI_mul, nI_clamp, n0l, n0r, nm1, nm1', nm1l, nm1r, nm1g, nsL, nI_m1, Nat.add_sub_cancel, vpn, vpL, nclL, le32, leLL, leLN, leNL, leNN, inA, nb0, nb1, gi_wi_n, gi_wi_e, gi_rw_n, gi_rw_e, aWi_rw, ifl, ifl_, ifle, ifle_, ifq, ifq_, ifnq, ifnq_, ifnl, ifnl_, ifnle, ifnle_, z399 ok, w4]
          refine m_lookM rc4.1 ps.2.1 rc4.2.1 (fun h5' a5 f5 => ?_)
          have rc5 := rc4.at a5 f5
          have b5 := ((b2.trans a3).trans a4).trans (a5.mono (fun a k z => ml3 (sl := sl) z))
          simp (disch := omega) only [s178_0, s178_1, s178_4, s178_5, s178_8, s178_9, s178_12, s178_13, s178_16, s178_19, s178_20, s178_22, s178_24, s178_27, s178_28, s178_30, s178_33, s178_34, s178_34i, s178_35, s178_38, s178_39, s178_40, s178_43, s178_44, s178_47, s178_48, s178_49, s178_51, s178_54, s178_55, s178_58, s178_59, s178_60, s178_63, s178_64, s178_67, s178_68, s178_71, s178_72, s178_75, s178_78, s178_79, s178_80, s178_83, true_or, or_true, or_false, false_or, or_self, Int32.reduceLT, Int32.reduceLE, Nat.add_zero, Nat.zero_add, Nat.not_lt_zero, not_false_eq_true, not_true_eq_false, and_assoc, kl_q, kl_i, kl_r, kl_n, kl_0, kl_l, cs_0, cs_i, cs_r, cs_n, cs_l, aRf_s, aRf_n, gi_wl, gi_wr, gl_wi, gl_wl, gl_wr, gr_wi, gr_wl, gr_wr, sh_wi, sh_wl, sh_wr, gl_cp, gr_cp, sh_cp, gl_rw, gr_rw, sh_rw, gi_rl, gr_rl, sh_rl, Option.toList_some, Option.toList_none, List.nil_append, List.cons_append, List.append_nil, Option.some.injEq, Prod.mk.injEq, and_true, true_and, and_self, if_true, if_false, reduceCtorEq, Nat.reduceLeDiff, Nat.reduceLT, Nat.reduceAdd, Nat.reduceEqDiff, false_and, and_false, exists_const, exists_eq_left, exists_eq_left', exists_and_left, and_assoc, nltL, nltR, nleL, nleR, neqL, neqR, naL, naR, nmL, nmR, nI_ltI, nI_leI, nI_eq, nI_add, nI_mul, nI_clamp, n0l, n0r, nm1, nm1', nm1l, nm1r, nm1g, nsL, nI_m1, Nat.add_sub_cancel, vpn, vpL, nclL, le32, leLL, leLN, leNL, leNN, inA, nb0, nb1, gi_wi_n, gi_wi_e, gi_rw_n, gi_rw_e, aWi_rw, ifl, ifl_, ifle, ifle_, ifq, ifq_, ifnq, ifnq_, ifnl, ifnl_, ifnle, ifnle_]
          rcases bnd_of h5 with ⟨q2, e2, rfl⟩ | ⟨p2, t2, e2, h6⟩
          · exact i1 e p1 _ (ts ++ t1 ++ [(o, 0)]) sl _ d _ e2 ps.2.1 he l4 rc5 (fun h6 a6 ed => hq h6 (b5.trans a6) ed)
          · cases h6
            refine i1 e p1 _ (ts ++ t1 ++ [(o, 0)]) sl _ d _ e2 ps.2.1 he l4 rc5 (fun h6 a6 rc6 => hq h6 (b5.trans a6) ?_)
            have rc6 : RdM h6 B T p2 (ts ++ t1 ++ [(o, 0)] ++ t2) sl e := rc6
            have el : ts ++ t1 ++ [(o, 0)] ++ t2 = ts ++ (t1 ++ (o, 0) :: t2) := by simp [List.append_assoc]
            rw [el] at rc6
            exact rc6
        rcases hy2 with ⟨y1, y2⟩ | ⟨⟨y0, y1⟩, y2⟩
        · subst y1
          subst y2
          simp (disch := omega) only [s178_47, s178_48, s178_49, s178_51, s178_54, s178_55, s178_58, s178_59, s178_60, true_or, or_true, or_false, false_or, or_self, Int32.reduceLT, Int32.reduceLE, Nat.add_zero, Nat.zero_add, Nat.not_lt_zero, not_false_eq_true, not_true_eq_false, and_assoc, kl_q, kl_i, kl_r, kl_n, kl_0, kl_l, cs_0, cs_i, cs_r, cs_n, cs_l, aRf_s, aRf_n, gi_wl, gi_wr, gl_wi, gl_wl, gl_wr, gr_wi, gr_wl, gr_wr, sh_wi, sh_wl, sh_wr, gl_cp, gr_cp, sh_cp, gl_rw, gr_rw, sh_rw, gi_rl, gr_rl, sh_rl, Option.toList_some, Option.toList_none, List.nil_append, List.cons_append, List.append_nil, Option.some.injEq, Prod.mk.injEq, and_true, true_and, and_self, if_true, if_false, reduceCtorEq, Nat.reduceLeDiff, Nat.reduceLT, Nat.reduceAdd, Nat.reduceEqDiff, false_and, and_false, exists_const, exists_eq_left, exists_eq_left', exists_and_left, and_assoc, nltL, nltR, nleL, nleR, neqL, neqR, naL, naR, nmL, nmR, nI_ltI, nI_leI, nI_eq, nI_add, nI_mul, nI_clamp, n0l, n0r, nm1, nm1', nm1l, nm1r, nm1g, nsL, nI_m1, Nat.add_sub_cancel, vpn, vpL, nclL, le32, leLL, leLN, leNL, leNN, inA, nb0, nb1, gi_wi_n, gi_wi_e, gi_rw_n, gi_rw_e, aWi_rw, ifl, ifl_, ifle, ifle_, ifq, ifq_, ifnq, ifnq_, ifnl, ifnl_, ifnle, ifnle_, z399 ok]
          refine m_put (c := 4) (v := 0) rc3 l3 (fun h4 a4 rc4 => ?_)
          simp only [true_or, or_true, or_false, false_or, or_self, Int32.reduceLT, Int32.reduceLE, Nat.add_zero, Nat.zero_add, Nat.not_lt_zero, not_false_eq_true, not_true_eq_false, and_assoc, kl_q, kl_i, kl_r, kl_n, kl_0, kl_l, cs_0, cs_i, cs_r, cs_n, cs_l, aRf_s, aRf_n, gi_wl, gi_wr, gl_wi, gl_wl, gl_wr, gr_wi, gr_wl, gr_wr, sh_wi, sh_wl, sh_wr, gl_cp, gr_cp, sh_cp, gl_rw, gr_rw, sh_rw, gi_rl, gr_rl, sh_rl, Option.toList_some, Option.toList_none, List.nil_append, List.cons_append, List.append_nil, Option.some.injEq, Prod.mk.injEq, and_true, true_and, and_self, if_true, if_false, reduceCtorEq, Nat.reduceLeDiff, Nat.reduceLT, Nat.reduceAdd, Nat.reduceEqDiff, false_and, and_false, exists_const, exists_eq_left, exists_eq_left', exists_and_left, and_assoc]
          exact go h4 a4 rc4
        · subst y1
          subst y2
          simp (disch := omega) only [s178_47, s178_48, s178_49, s178_51, s178_54, s178_55, s178_58, s178_59, s178_60, true_or, or_true, or_false, false_or, or_self, Int32.reduceLT, Int32.reduceLE, Nat.add_zero, Nat.zero_add, Nat.not_lt_zero, not_false_eq_true, not_true_eq_false, and_assoc, kl_q, kl_i, kl_r, kl_n, kl_0, kl_l, cs_0, cs_i, cs_r, cs_n, cs_l, aRf_s, aRf_n, gi_wl, gi_wr, gl_wi, gl_wl, gl_wr, gr_wi, gr_wl, gr_wr, sh_wi, sh_wl, sh_wr, gl_cp, gr_cp, sh_cp, gl_rw, gr_rw, sh_rw, gi_rl, gr_rl, sh_rl, Option.toList_some, Option.toList_none, List.nil_append, List.cons_append, List.append_nil, Option.some.injEq, Prod.mk.injEq, and_true, true_and, and_self, if_true, if_false, reduceCtorEq, Nat.reduceLeDiff, Nat.reduceLT, Nat.reduceAdd, Nat.reduceEqDiff, false_and, and_false, exists_const, exists_eq_left, exists_eq_left', exists_and_left, and_assoc, nltL, nltR, nleL, nleR, neqL, neqR, naL, naR, nmL, nmR, nI_ltI, nI_leI, nI_eq, nI_add, nI_mul, nI_clamp, n0l, n0r, nm1, nm1', nm1l, nm1r, nm1g, nsL, nI_m1, Nat.add_sub_cancel, vpn, vpL, nclL, le32, leLL, leLN, leNL, leNN, inA, nb0, nb1, gi_wi_n, gi_wi_e, gi_rw_n, gi_rw_e, aWi_rw, ifl, ifl_, ifle, ifle_, ifq, ifq_, ifnq, ifnq_, ifnl, ifnl_, ifnle, ifnle_, z399 ok]
          refine m_put (c := 5) (v := 0) rc3 l3 (fun h4 a4 rc4 => ?_)
          simp only [true_or, or_true, or_false, false_or, or_self, Int32.reduceLT, Int32.reduceLE, Nat.add_zero, Nat.zero_add, Nat.not_lt_zero, not_false_eq_true, not_true_eq_false, and_assoc, kl_q, kl_i, kl_r, kl_n, kl_0, kl_l, cs_0, cs_i, cs_r, cs_n, cs_l, aRf_s, aRf_n, gi_wl, gi_wr, gl_wi, gl_wl, gl_wr, gr_wi, gr_wl, gr_wr, sh_wi, sh_wl, sh_wr, gl_cp, gr_cp, sh_cp, gl_rw, gr_rw, sh_rw, gi_rl, gr_rl, sh_rl, Option.toList_some, Option.toList_none, List.nil_append, List.cons_append, List.append_nil, Option.some.injEq, Prod.mk.injEq, and_true, true_and, and_self, if_true, if_false, reduceCtorEq, Nat.reduceLeDiff, Nat.reduceLT, Nat.reduceAdd, Nat.reduceEqDiff, false_and, and_false, exists_const, exists_eq_left, exists_eq_left', exists_and_left, and_assoc]
          exact go h4 a4 rc4
    unfold opT at ho
    by_cases b42 : sgB B T (sk B T p) = 42
    · rw [if_pos b42] at ho
      cases ho
      have f42 := l42.mpr b42
      have := more 42 f42 (Or.inl ⟨rfl, rfl⟩)
      rw [f42]
      simp (disch := omega) only [s178_22, s178_24, s178_27, s178_28, s178_30, true_or, or_true, or_false, false_or, or_self, Int32.reduceLT, Int32.reduceLE, Nat.add_zero, Nat.zero_add, Nat.not_lt_zero, not_false_eq_true, not_true_eq_false, and_assoc, kl_q, kl_i, kl_r, kl_n, kl_0, kl_l, cs_0, cs_i, cs_r, cs_n, cs_l, aRf_s, aRf_n, gi_wl, gi_wr, gl_wi, gl_wl, gl_wr, gr_wi, gr_wl, gr_wr, sh_wi, sh_wl, sh_wr, gl_cp, gr_cp, sh_cp, gl_rw, gr_rw, sh_rw, gi_rl, gr_rl, sh_rl, Option.toList_some, Option.toList_none, List.nil_append, List.cons_append, List.append_nil, Option.some.injEq, Prod.mk.injEq, and_true, true_and, and_self, if_true, if_false, reduceCtorEq, Nat.reduceLeDiff, Nat.reduceLT, Nat.reduceAdd, Nat.reduceEqDiff, false_and, and_false, exists_const, exists_eq_left, exists_eq_left', exists_and_left, and_assoc, nltL, nltR, nleL, nleR, neqL, neqR, naL, naR, nmL, nmR, nI_ltI, nI_leI, nI_eq, nI_add, nI_mul, nI_clamp, n0l, n0r, nm1, nm1', nm1l, nm1r, nm1g, nsL, nI_m1, Nat.add_sub_cancel, vpn, vpL, nclL, le32, leLL, leLN, leNL, leNN, inA, nb0, nb1, gi_wi_n, gi_wi_e, gi_rw_n, gi_rw_e, aWi_rw, ifl, ifl_, ifle, ifle_, ifq, ifq_, ifnq, ifnq_, ifnl, ifnl_, ifnle, ifnle_]
      exact this
    · rw [if_neg b42] at ho
      by_cases b47 : sgB B T (sk B T p) = 47
      · rw [if_pos b47] at ho
        cases ho
        have f47 := l47.mpr b47
        have := more 47 f47 (Or.inr ⟨⟨by decide, rfl⟩, rfl⟩)
        rw [f47]
        simp (disch := omega) only [s178_22, s178_24, s178_27, s178_28, s178_30, true_or, or_true, or_false, false_or, or_self, Int32.reduceLT, Int32.reduceLE, Nat.add_zero, Nat.zero_add, Nat.not_lt_zero, not_false_eq_true, not_true_eq_false, and_assoc, kl_q, kl_i, kl_r, kl_n, kl_0, kl_l, cs_0, cs_i, cs_r, cs_n, cs_l, aRf_s, aRf_n, gi_wl, gi_wr, gl_wi, gl_wl, gl_wr, gr_wi, gr_wl, gr_wr, sh_wi, sh_wl, sh_wr, gl_cp, gr_cp, sh_cp, gl_rw, gr_rw, sh_rw, gi_rl, gr_rl, sh_rl, Option.toList_some, Option.toList_none, List.nil_append, List.cons_append, List.append_nil, Option.some.injEq, Prod.mk.injEq, and_true, true_and, and_self, if_true, if_false, reduceCtorEq, Nat.reduceLeDiff, Nat.reduceLT, Nat.reduceAdd, Nat.reduceEqDiff, false_and, and_false, exists_const, exists_eq_left, exists_eq_left', exists_and_left, and_assoc, nltL, nltR, nleL, nleR, neqL, neqR, naL, naR, nmL, nmR, nI_ltI, nI_leI, nI_eq, nI_add, nI_mul, nI_clamp, n0l, n0r, nm1, nm1', nm1l, nm1r, nm1g, nsL, nI_m1, Nat.add_sub_cancel, vpn, vpL, nclL, le32, leLL, leLN, leNL, leNN, inA, nb0, nb1, gi_wi_n, gi_wi_e, gi_rw_n, gi_rw_e, aWi_rw, ifl, ifl_, ifle, ifle_, ifq, ifq_, ifnq, ifnq_, ifnl, ifnl_, ifnle, ifnle_]
        exact this
      · rw [if_neg b47] at ho
        cases ho
end M3
