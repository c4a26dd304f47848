-- deps: 80.mpars3
section M4
variable {B : Nat → Nat} {T n : Nat}
theorem m_sign {d q : Nat} {h : aM} {Q : Option Value → aM → Prop} (hb : ∀ i, i < T → B i < 256) : AW d 180 0 [some (.int (lkI B T q))] [] h Q ↔ Q (some (.int (bI (opC (sgB B T q)).isSome))) h := by
  have l0 := lk_sg (q := q) hb (b := 61) (by omega) (by omega)
  have l1 := lk_sg (q := q) hb (b := 60) (by omega) (by omega)
  have l2 := lk_sg (q := q) hb (b := 62) (by omega) (by omega)
  rw [show nI 61 = (61 : Int32) from rfl] at l0
  rw [show nI 60 = (60 : Int32) from rfl] at l1
  rw [show nI 62 = (62 : Int32) from rfl] at l2
  unfold opC
  simp only [s180_0, s180_1, s180_3, s180_6, s180_7, s180_9, s180_12, s180_13, s180_15, s180_18, s180_19, s180_22, s180_23, true_or, or_true, or_false, false_or, or_self, Int32.reduceLT, Int32.reduceLE, Nat.add_zero, Nat.zero_add, Nat.not_lt_zero, not_false_eq_true, not_true_eq_false, and_assoc, kl_q, kl_i, kl_r, kl_n, kl_0, kl_l, cs_0, cs_i, cs_r, cs_n, cs_l, aRf_s, aRf_n, gi_wl, gi_wr, gl_wi, gl_wl, gl_wr, gr_wi, gr_wl, gr_wr, sh_wi, sh_wl, sh_wr, gl_cp, gr_cp, sh_cp, gl_rw, gr_rw, sh_rw, gi_rl, gr_rl, sh_rl, Option.toList_some, Option.toList_none, List.nil_append, List.cons_append, List.append_nil, Option.some.injEq, Prod.mk.injEq, and_true, true_and, and_self, if_true, if_false, reduceCtorEq, Nat.reduceLeDiff, Nat.reduceLT, Nat.reduceAdd, Nat.reduceEqDiff, false_and, and_false, exists_const, exists_eq_left, exists_eq_left', exists_and_left, and_assoc, l0, l1, l2, nb0, nb1]
  by_cases h0 : sgB B T q = 61
  · simp [h0, bI]
  · by_cases h1 : sgB B T q = 60
    · simp [h1, bI]
    · by_cases h2 : sgB B T q = 62
      · simp [h2, bI]
      · simp [h0, h1, h2, bI]
theorem simM10 (i0 : SimM B T n 0) : SimM B T (n + 1) 10 := by
  intro e p r ts sl h d Q hr hp he hl rc hq
  rw [prE10] at hr
  show AW (d + 12 * (7 - e) + 8) 181 0 [some (.ref 399), none] [] h Q
  have rc : RdM h B T p ts sl e := rc
  have hs := sk_le (B := B) hp
  have hT := rc.1.2.1
  have hbb := rc.1.2.2.2.2
  have ok := rc.ok
  have w0 := rc.2.2.1
  simp (disch := omega) only [s181_0, s181_1, s181_4, s181_5, s181_8, s181_9, s181_12, s181_15, s181_16, s181_17, s181_18, s181_21, s181_24, s181_25, s181_28, s181_29, s181_30, s181_30i, s181_31, s181_34, s181_35, s181_36, s181_39, s181_40, s181_43, s181_44, s181_45, s181_47, s181_50, s181_52, s181_55, s181_56, s181_58, s181_61, s181_63, s181_66, s181_68, s181_69, s181_72, true_or, or_true, or_false, false_or, or_self, Int32.reduceLT, Int32.reduceLE, Nat.add_zero, Nat.zero_add, Nat.not_lt_zero, not_false_eq_true, not_true_eq_false, and_assoc, kl_q, kl_i, kl_r, kl_n, kl_0, kl_l, cs_0, cs_i, cs_r, cs_n, cs_l, aRf_s, aRf_n, gi_wl, gi_wr, gl_wi, gl_wl, gl_wr, gr_wi, gr_wl, gr_wr, sh_wi, sh_wl, sh_wr, gl_cp, gr_cp, sh_cp, gl_rw, gr_rw, sh_rw, gi_rl, gr_rl, sh_rl, Option.toList_some, Option.toList_none, List.nil_append, List.cons_append, List.append_nil, Option.some.injEq, Prod.mk.injEq, and_true, true_and, and_self, if_true, if_false, reduceCtorEq, Nat.reduceLeDiff, Nat.reduceLT, Nat.reduceAdd, Nat.reduceEqDiff, false_and, and_false, exists_const, exists_eq_left, exists_eq_left', exists_and_left, and_assoc, nltL, nltR, nleL, nleR, neqL, neqR, naL, naR, nmL, nmR, nI_ltI, nI_leI, nI_eq, nI_add, nI_mul, nI_clamp, n0l, n0r, nm1, nm1', nm1l, nm1r, nm1g, nsL, nI_m1, Nat.add_sub_cancel, vpn, vpL, nclL, le32, leLL, leLN, leNL, leNN, inA, nb0, nb1, gi_wi_n, gi_wi_e, gi_rw_n, gi_rw_e, aWi_rw, ifl, ifl_, ifle, ifle_, ifq, ifq_, ifnq, ifnq_, ifnl, ifnl_, ifnle, ifnle_, z399 ok, w0]
  refine m_lookM rc.1 hp rc.2.1 (fun h1 a1 f1 => ?_)
  have rc1 := rc.at a1 f1
  have ok := rc1.ok
  have b1 : Ag (ML sl) h h1 := a1.mono (fun a k z => ml3 z)
  have w1 := rc1.2.2.1
  have l0 := lk_sg (q := sk B T p) hbb (b := 61) (by omega) (by omega)
  have l1 := lk_sg (q := sk B T p) hbb (b := 60) (by omega) (by omega)
  have l2 := lk_sg (q := sk B T p) hbb (b := 62) (by omega) (by omega)
  rw [show nI 61 = (61 : Int32) from rfl] at l0
  rw [show nI 60 = (60 : Int32) from rfl] at l1
  rw [show nI 62 = (62 : Int32) from rfl] at l2
  cases ho : opC (sgB B T (sk B T p)) with
  | none =>
    rw [ho] at hr
    cases hr
    obtain ⟨ed, ae⟩ := rc1.bad (J := 240) (by omega)
    simp (disch := omega) only [s181_0, s181_1, s181_4, s181_5, s181_8, s181_9, s181_12, s181_15, s181_16, s181_17, s181_18, s181_21, s181_24, s181_25, s181_28, s181_29, s181_30, s181_30i, s181_31, s181_34, s181_35, s181_36, s181_39, s181_40, s181_43, s181_44, s181_45, s181_47, s181_50, s181_52, s181_55, s181_56, s181_58, s181_61, s181_63, s181_66, s181_68, s181_69, s181_72, true_or, or_true, or_false, false_or, or_self, Int32.reduceLT, Int32.reduceLE, Nat.add_zero, Nat.zero_add, Nat.not_lt_zero, not_false_eq_true, not_true_eq_false, and_assoc, kl_q, kl_i, kl_r, kl_n, kl_0, kl_l, cs_0, cs_i, cs_r, cs_n, cs_l, aRf_s, aRf_n, gi_wl, gi_wr, gl_wi, gl_wl, gl_wr, gr_wi, gr_wl, gr_wr, sh_wi, sh_wl, sh_wr, gl_cp, gr_cp, sh_cp, gl_rw, gr_rw, sh_rw, gi_rl, gr_rl, sh_rl, Option.toList_some, Option.toList_none, List.nil_append, List.cons_append, List.append_nil, Option.some.injEq, Prod.mk.injEq, and_true, true_and, and_self, if_true, if_false, reduceCtorEq, Nat.reduceLeDiff, Nat.reduceLT, Nat.reduceAdd, Nat.reduceEqDiff, false_and, and_false, exists_const, exists_eq_left, exists_eq_left', exists_and_left, and_assoc, nltL, nltR, nleL, nleR, neqL, neqR, naL, naR, nmL, nmR, nI_ltI, nI_leI, nI_eq, nI_add, nI_mul, nI_clamp, n0l, n0r, nm1, nm1', nm1l, nm1r, nm1g, nsL, nI_m1, Nat.add_sub_cancel, vpn, vpL, nclL, le32, leLL, leLN, leNL, leNN, inA, nb0, nb1, gi_wi_n, gi_wi_e, gi_rw_n, gi_rw_e, aWi_rw, ifl, ifl_, ifle, ifle_, ifq, ifq_, ifnq, ifnq_, ifnl, ifnl_, ifnle, ifnle_, z399 ok, m_sign hbb, ho, Option.isSome_none, bI_0, m_bad ok f1 w1]
    refine hq _ (b1.trans ae) (EdM.mono ed ?_)
    show _ ≤ 250 + 10 * (7 - e) + 3
    omega
  | some o =>
    have hq1 := opC_lt ho
    rw [ho] at hr
    simp only at hr
    simp (disch := omega) only [s181_16, s181_17, s181_18, s181_21, s181_24, s181_25, s181_28, s181_29, s181_30, s181_30i, s181_31, s181_34, s181_35, s181_36, s181_39, s181_40, s181_43, s181_44, s181_45, true_or, or_true, or_false, false_or, or_self, Int32.reduceLT, Int32.reduceLE, Nat.add_zero, Nat.zero_add, Nat.not_lt_zero, not_false_eq_true, not_true_eq_false, and_assoc, kl_q, kl_i, kl_r, kl_n, kl_0, kl_l, cs_0, cs_i, cs_r, cs_n, cs_l, aRf_s, aRf_n, gi_wl, gi_wr, gl_wi, gl_wl, gl_wr, gr_wi, gr_wl, gr_wr, sh_wi, sh_wl, sh_wr, gl_cp, gr_cp, sh_cp, gl_rw, gr_rw, sh_rw, gi_rl, gr_rl, sh_rl, Option.toList_some, Option.toList_none, List.nil_append, List.cons_append, List.append_nil, Option.some.injEq, Prod.mk.injEq, and_true, true_and, and_self, if_true, if_false, reduceCtorEq, Nat.reduceLeDiff, Nat.reduceLT, Nat.reduceAdd, Nat.reduceEqDiff, false_and, and_false, exists_const, exists_eq_left, exists_eq_left', exists_and_left, and_assoc, nltL, nltR, nleL, nleR, neqL, neqR, naL, naR, nmL, nmR, nI_ltI, nI_leI, nI_eq, nI_add, nI_mul, nI_clamp, n0l, n0r, nm1, nm1', nm1l, nm1r, nm1g, nsL, nI_m1, Nat.add_sub_cancel, vpn, vpL, nclL, le32, leLL, leLN, leNL, leNN, inA, nb0, nb1, gi_wi_n, gi_wi_e, gi_rw_n, gi_rw_e, aWi_rw, ifl, ifl_, ifle, ifle_, ifq, ifq_, ifnq, ifnq_, ifnl, ifnl_, ifnle, ifnle_, z399 ok, m_sign hbb, ho, Option.isSome_some, bI_0, Bool.true_eq_false, f1]
    have rc2 : RdM (aWi h1 399 3 (nI (sk B T p + 1))) B T (sk B T p + 1) ts sl e := rc1.at ((Ag.refl ok).wi ⟨rfl, rfl⟩) gi_wi_e
    have b2 : Ag (ML sl) h (aWi h1 399 3 (nI (sk B T p + 1))) := b1.trans ((Ag.refl ok).wi (ml3 ⟨rfl, rfl⟩))
    have cs : (lkI B T (sk B T p) = 61 ∧ o = 6) ∨ (lkI B T (sk B T p) = 60 ∧ o = 7) ∨ (lkI B T (sk B T p) = 62 ∧ o = 8) := by
      unfold opC at ho
      by_cases b61 : sgB B T (sk B T p) = 61
      · rw [if_pos b61] at ho
        cases ho
        exact Or.inl ⟨l0.mpr b61, rfl⟩
      · rw [if_neg b61] at ho
        by_cases b60 : sgB B T (sk B T p) = 60
        · rw [if_pos b60] at ho
          cases ho
          exact Or.inr (Or.inl ⟨l1.mpr b60, rfl⟩)
        · rw [if_neg b60] at ho
          by_cases b62 : sgB B T (sk B T p) = 62
          · rw [if_pos b62] at ho
            cases ho
            exact Or.inr (Or.inr ⟨l2.mpr b62, rfl⟩)
          · rw [if_neg b62] at ho
            cases ho
    rcases bnd_of hr with ⟨q1, e1, rfl⟩ | ⟨p1, t1, e1, h5⟩
    · refine i0 e (sk B T p + 1) _ ts sl _ d _ e1 (by omega) he (by omega) rc2 (fun h3 a3 ed => ?_)
      have ed : EdM h3 sl q1 (250 + 10 * (7 - e) + 2) := ed
      have ok := ed.1
      have fin : ∀ h4, Ag (ML sl) h3 h4 → EdM h4 sl q1 (250 + 10 * (7 - e) + 2 + 1) → Q none h4 := fun h4 a4 ed4 => hq h4 ((b2.trans a3).trans a4) ed4
      rcases cs with ⟨c1, c2⟩ | ⟨c1, c2⟩ | ⟨c1, c2⟩
      all_goals
        rw [c1]
        simp (disch := omega) only [s181_0, s181_1, s181_4, s181_5, s181_8, s181_9, s181_12, s181_15, s181_16, s181_17, s181_18, s181_21, s181_24, s181_25, s181_28, s181_29, s181_30, s181_30i, s181_31, s181_34, s181_35, s181_36, s181_39, s181_40, s181_43, s181_44, s181_45, s181_47, s181_50, s181_52, s181_55, s181_56, s181_58, s181_61, s181_63, s181_66, s181_68, s181_69, s181_72, true_or, or_true, or_false, false_or, or_self, Int32.reduceLT, Int32.reduceLE, Nat.add_zero, Nat.zero_add, Nat.not_lt_zero, not_false_eq_true, not_true_eq_false, and_assoc, kl_q, kl_i, kl_r, kl_n, kl_0, kl_l, cs_0, cs_i, cs_r, cs_n, cs_l, aRf_s, aRf_n, gi_wl, gi_wr, gl_wi, gl_wl, gl_wr, gr_wi, gr_wl, gr_wr, sh_wi, sh_wl, sh_wr, gl_cp, gr_cp, sh_cp, gl_rw, gr_rw, sh_rw, gi_rl, gr_rl, sh_rl, Option.toList_some, Option.toList_none, List.nil_append, List.cons_append, List.append_nil, Option.some.injEq, Prod.mk.injEq, and_true, true_and, and_self, if_true, if_false, reduceCtorEq, Nat.reduceLeDiff, Nat.reduceLT, Nat.reduceAdd, Nat.reduceEqDiff, false_and, and_false, exists_const, exists_eq_left, exists_eq_left', exists_and_left, and_assoc, nltL, nltR, nleL, nleR, neqL, neqR, naL, naR, nmL, nmR, nI_ltI, nI_leI, nI_eq, nI_add, nI_mul, nI_clamp, n0l, n0r, nm1, nm1', nm1l, nm1r, nm1g, nsL, nI_m1, Nat.add_sub_cancel, vpn, vpL, nclL, le32, leLL, leLN, leNL, leNN, inA, nb0, nb1, gi_wi_n, gi_wi_e, gi_rw_n, gi_rw_e, aWi_rw, ifl, ifl_, ifle, ifle_, ifq, ifq_, ifnq, ifnq_, ifnl, ifnl_, ifnle, ifnle_, z399 ok]
        refine m_putE ed (by omega) (fun h4 a4 ed4 => ?_)
        simp (disch := omega) only [s181_0, s181_1, s181_4, s181_5, s181_8, s181_9, s181_12, s181_15, s181_16, s181_17, s181_18, s181_21, s181_24, s181_25, s181_28, s181_29, s181_30, s181_30i, s181_31, s181_34, s181_35, s181_36, s181_39, s181_40, s181_43, s181_44, s181_45, s181_47, s181_50, s181_52, s181_55, s181_56, s181_58, s181_61, s181_63, s181_66, s181_68, s181_69, s181_72, true_or, or_true, or_false, false_or, or_self, Int32.reduceLT, Int32.reduceLE, Nat.add_zero, Nat.zero_add, Nat.not_lt_zero, not_false_eq_true, not_true_eq_false, and_assoc, kl_q, kl_i, kl_r, kl_n, kl_0, kl_l, cs_0, cs_i, cs_r, cs_n, cs_l, aRf_s, aRf_n, gi_wl, gi_wr, gl_wi, gl_wl, gl_wr, gr_wi, gr_wl, gr_wr, sh_wi, sh_wl, sh_wr, gl_cp, gr_cp, sh_cp, gl_rw, gr_rw, sh_rw, gi_rl, gr_rl, sh_rl, Option.toList_some, Option.toList_none, List.nil_append, List.cons_append, List.append_nil, Option.some.injEq, Prod.mk.injEq, and_true, true_and, and_self, if_true, if_false, reduceCtorEq, Nat.reduceLeDiff, Nat.reduceLT, Nat.reduceAdd, Nat.reduceEqDiff, false_and, and_false, exists_const, exists_eq_left, exists_eq_left', exists_and_left, and_assoc]
        exact fin h4 a4 ed4
    · have ps := pr_pos _ _ _ _ _ e1 (by omega)
      unfold PosR ltM at ps
      simp at ps
      cases h5
      refine i0 e (sk B T p + 1) _ ts sl _ d _ e1 (by omega) he (by omega) rc2 (fun h3 a3 rc3 => ?_)
      have rc3 : RdM h3 B T p1 (ts ++ t1) sl e := rc3
      have ok := rc3.ok
      have l3 : (ts ++ t1).length < 520 := by
        rw [List.length_append]
        omega
      have fin : ∀ h4, Ag (ML sl) h3 h4 → RdM h4 B T p1 (ts ++ t1 ++ [(o, 0)]) sl e → Q none h4 := fun h4 a4 rc4 => hq h4 ((b2.trans a3).trans a4) (by
        rw [List.append_assoc] at rc4
        exact rc4)
      rcases cs with ⟨c1, c2⟩ | ⟨c1, c2⟩ | ⟨c1, c2⟩
      all_goals
        subst c2
        rw [c1]
        simp (disch := omega) only [s181_0, s181_1, s181_4, s181_5, s181_8, s181_9, s181_12, s181_15, s181_16, s181_17, s181_18, s181_21, s181_24, s181_25, s181_28, s181_29, s181_30, s181_30i, s181_31, s181_34, s181_35, s181_36, s181_39, s181_40, s181_43, s181_44, s181_45, s181_47, s181_50, s181_52, s181_55, s181_56, s181_58, s181_61, s181_63, s181_66, s181_68, s181_69, s181_72, true_or, or_true, or_false, false_or, or_self, Int32.reduceLT, Int32.reduceLE, Nat.add_zero, Nat.zero_add, Nat.not_lt_zero, not_false_eq_true, not_true_eq_false, and_assoc, kl_q, kl_i, kl_r, kl_n, kl_0, kl_l, cs_0, cs_i, cs_r, cs_n, cs_l, aRf_s, aRf_n, gi_wl, gi_wr, gl_wi, gl_wl, gl_wr, gr_wi, gr_wl, gr_wr, sh_wi, sh_wl, sh_wr, gl_cp, gr_cp, sh_cp, gl_rw, gr_rw, sh_rw, gi_rl, gr_rl, sh_rl, Option.toList_some, Option.toList_none, List.nil_append, List.cons_append, List.append_nil, Option.some.injEq, Prod.mk.injEq, and_true, true_and, and_self, if_true, if_false, reduceCtorEq, Nat.reduceLeDiff, Nat.reduceLT, Nat.reduceAdd, Nat.reduceEqDiff, false_and, and_false, exists_const, exists_eq_left, exists_eq_left', exists_and_left, and_assoc, nltL, nltR, nleL, nleR, neqL, neqR, naL, naR, nmL, nmR, nI_ltI, nI_leI, nI_eq, nI_add, nI_mul, nI_clamp, n0l, n0r, nm1, nm1', nm1l, nm1r, nm1g, nsL, nI_m1, Nat.add_sub_cancel, vpn, vpL, nclL, le32, leLL, leLN, leNL, leNN, inA, nb0, nb1, gi_wi_n, gi_wi_e, gi_rw_n, gi_rw_e, aWi_rw, ifl, ifl_, ifle, ifle_, ifq, ifq_, ifnq, ifnq_, ifnl, ifnl_, ifnle, ifnle_, z399 ok]
        refine m_put (v := 0) rc3 l3 (fun h4 a4 rc4 => ?_)
        simp (disch := omega) only [s181_0, s181_1, s181_4, s181_5, s181_8, s181_9, s181_12, s181_15, s181_16, s181_17, s181_18, s181_21, s181_24, s181_25, s181_28, s181_29, s181_30, s181_30i, s181_31, s181_34, s181_35, s181_36, s181_39, s181_40, s181_43, s181_44, s181_45, s181_47, s181_50, s181_52, s181_55, s181_56, s181_58, s181_61, s181_63, s181_66, s181_68, s181_69, s181_72, true_or, or_true, or_false, false_or, or_self, Int32.reduceLT, Int32.reduceLE, Nat.add_zero, Nat.zero_add, Nat.not_lt_zero, not_false_eq_true, not_true_eq_false, and_assoc, kl_q, kl_i, kl_r, kl_n, kl_0, kl_l, cs_0, cs_i, cs_r, cs_n, cs_l, aRf_s, aRf_n, gi_wl, gi_wr, gl_wi, gl_wl, gl_wr, gr_wi, gr_wl, gr_wr, sh_wi, sh_wl, sh_wr, gl_cp, gr_cp, sh_cp, gl_rw, gr_rw, sh_rw, gi_rl, gr_rl, sh_rl, Option.toList_some, Option.toList_none, List.nil_append, List.cons_append, List.append_nil, Option.some.injEq, Prod.mk.injEq, and_true, true_and, and_self, if_true, if_false, reduceCtorEq, Nat.reduceLeDiff, Nat.reduceLT, Nat.reduceAdd, Nat.reduceEqDiff, false_and, and_false, exists_const, exists_eq_left, exists_eq_left', exists_and_left, and_assoc]
        exact fin h4 a4 rc4
theorem m_andE {d sl q J : Nat} {h : aM} {Q : Option Value → aM → Prop} (ed : EdM h sl q J) (hq : q < 2 ^ 31) : AW d 183 0 [some (.ref 399)] [] h Q ↔ Q none h := by
  have ok := ed.1
  have w := ed.n1 hq
  rw [s183_0]
  simp (disch := omega) only [s183_1, s183_4, s183_5, s183_8, s183_9, s183_12, s183_14, s183_17, s183_18, s183_18i, s183_19, s183_22, s183_23, s183_24, s183_27, s183_28, s183_31, s183_32, s183_34, s183_35, s183_38, s183_41, true_or, or_true, or_false, false_or, or_self, Int32.reduceLT, Int32.reduceLE, Nat.add_zero, Nat.zero_add, Nat.not_lt_zero, not_false_eq_true, not_true_eq_false, and_assoc, kl_q, kl_i, kl_r, kl_n, kl_0, kl_l, cs_0, cs_i, cs_r, cs_n, cs_l, aRf_s, aRf_n, gi_wl, gi_wr, gl_wi, gl_wl, gl_wr, gr_wi, gr_wl, gr_wr, sh_wi, sh_wl, sh_wr, gl_cp, gr_cp, sh_cp, gl_rw, gr_rw, sh_rw, gi_rl, gr_rl, sh_rl, Option.toList_some, Option.toList_none, List.nil_append, List.cons_append, List.append_nil, Option.some.injEq, Prod.mk.injEq, and_true, true_and, and_self, if_true, if_false, reduceCtorEq, Nat.reduceLeDiff, Nat.reduceLT, Nat.reduceAdd, Nat.reduceEqDiff, false_and, and_false, exists_const, exists_eq_left, exists_eq_left', exists_and_left, and_assoc, nltL, nltR, nleL, nleR, neqL, neqR, naL, naR, nmL, nmR, nI_ltI, nI_leI, nI_eq, nI_add, nI_mul, nI_clamp, n0l, n0r, nm1, nm1', nm1l, nm1r, nm1g, nsL, nI_m1, Nat.add_sub_cancel, vpn, vpL, nclL, le32, leLL, leLN, leNL, leNN, inA, nb0, nb1, gi_wi_n, gi_wi_e, gi_rw_n, gi_rw_e, aWi_rw, ifl, ifl_, ifle, ifle_, ifq, ifq_, ifnq, ifnq_, ifnl, ifnl_, ifnle, ifnle_, z399 ok, w]
theorem m_orE {d sl q J : Nat} {h : aM} {Q : Option Value → aM → Prop} (ed : EdM h sl q J) (hq : q < 2 ^ 31) : AW d 184 0 [some (.ref 399)] [] h Q ↔ Q none h := by
  have ok := ed.1
  have w := ed.n1 hq
  rw [s184_0]
  simp (disch := omega) only [s184_1, s184_4, s184_5, s184_8, s184_9, s184_12, s184_14, s184_17, s184_18, s184_18i, s184_19, s184_22, s184_23, s184_24, s184_27, s184_28, s184_31, s184_32, s184_35, s184_36, s184_38, s184_39, s184_42, s184_45, true_or, or_true, or_false, false_or, or_self, Int32.reduceLT, Int32.reduceLE, Nat.add_zero, Nat.zero_add, Nat.not_lt_zero, not_false_eq_true, not_true_eq_false, and_assoc, kl_q, kl_i, kl_r, kl_n, kl_0, kl_l, cs_0, cs_i, cs_r, cs_n, cs_l, aRf_s, aRf_n, gi_wl, gi_wr, gl_wi, gl_wl, gl_wr, gr_wi, gr_wl, gr_wr, sh_wi, sh_wl, sh_wr, gl_cp, gr_cp, sh_cp, gl_rw, gr_rw, sh_rw, gi_rl, gr_rl, sh_rl, Option.toList_some, Option.toList_none, List.nil_append, List.cons_append, List.append_nil, Option.some.injEq, Prod.mk.injEq, and_true, true_and, and_self, if_true, if_false, reduceCtorEq, Nat.reduceLeDiff, Nat.reduceLT, Nat.reduceAdd, Nat.reduceEqDiff, false_and, and_false, exists_const, exists_eq_left, exists_eq_left', exists_and_left, and_assoc, nltL, nltR, nleL, nleR, neqL, neqR, naL, naR, nmL, nmR, nI_ltI, nI_leI, nI_eq, nI_add, nI_mul, nI_clamp, n0l, n0r, nm1, nm1', nm1l, nm1r, nm1g, nsL, nI_m1, Nat.add_sub_cancel, vpn, vpL, nclL, le32, leLL, leLN, leNL, leNN, inA, nb0, nb1, gi_wi_n, gi_wi_e, gi_rw_n, gi_rw_e, aWi_rw, ifl, ifl_, ifle, ifle_, ifq, ifq_, ifnq, ifnq_, ifnl, ifnl_, ifnle, ifnle_, z399 ok, w]
theorem simM8 (i9 : SimM B T n 9) (i8 : SimM B T n 8) : SimM B T (n + 1) 8 := by
  intro e p r ts sl h d Q hr hp he hl rc hq
  rw [prE8] at hr
  show AW (d + 12 * (7 - e) + 10) 183 0 [some (.ref 399)] [] h Q
  have rc : RdM h B T p ts sl e := rc
  have hs := sk_le (B := B) hp
  have hT := rc.1.2.1
  have hbb := rc.1.2.2.2.2
  have ok := rc.ok
  have w0 := rc.2.2.1
  have l38 := lk_sg (q := sk B T p) hbb (b := 38) (by omega) (by omega)
  rw [show nI 38 = (38 : Int32) from rfl] at l38
  rw [s183_0]
  simp (disch := omega) only [s183_1, s183_4, s183_5, s183_8, s183_9, s183_12, s183_14, s183_17, s183_18, s183_18i, s183_19, s183_22, s183_23, s183_24, s183_27, s183_28, s183_31, s183_32, s183_34, s183_35, s183_38, s183_41, true_or, or_true, or_false, false_or, or_self, Int32.reduceLT, Int32.reduceLE, Nat.add_zero, Nat.zero_add, Nat.not_lt_zero, not_false_eq_true, not_true_eq_false, and_assoc, kl_q, kl_i, kl_r, kl_n, kl_0, kl_l, cs_0, cs_i, cs_r, cs_n, cs_l, aRf_s, aRf_n, gi_wl, gi_wr, gl_wi, gl_wl, gl_wr, gr_wi, gr_wl, gr_wr, sh_wi, sh_wl, sh_wr, gl_cp, gr_cp, sh_cp, gl_rw, gr_rw, sh_rw, gi_rl, gr_rl, sh_rl, Option.toList_some, Option.toList_none, List.nil_append, List.cons_append, List.append_nil, Option.some.injEq, Prod.mk.injEq, and_true, true_and, and_self, if_true, if_false, reduceCtorEq, Nat.reduceLeDiff, Nat.reduceLT, Nat.reduceAdd, Nat.reduceEqDiff, false_and, and_false, exists_const, exists_eq_left, exists_eq_left', exists_and_left, and_assoc, nltL, nltR, nleL, nleR, neqL, neqR, naL, naR, nmL, nmR, nI_ltI, nI_leI, nI_eq, nI_add, nI_mul, nI_clamp, n0l, n0r, nm1, nm1', nm1l, nm1r, nm1g, nsL, nI_m1, Nat.add_sub_cancel, vpn, vpL, nclL, le32, leLL, leLN, leNL, leNN, inA, nb0, nb1, gi_wi_n, gi_wi_e, gi_rw_n, gi_rw_e, aWi_rw, ifl, ifl_, ifle, ifle_, ifq, ifq_, ifnq, ifnq_, ifnl, ifnl_, ifnle, ifnle_, z399 ok, w0]
  refine m_lookM rc.1 hp rc.2.1 (fun h1 a1 f1 => ?_)
  have rc1 := rc.at a1 f1
  have ok := rc1.ok
  have b1 : Ag (ML sl) h h1 := a1.mono (fun a k z => ml3 z)
  by_cases b38 : sgB B T (sk B T p) = 38
  · rw [if_pos b38] at hr
    have hq1 := sg_lt (by omega) b38
    have f38 := l38.mpr b38
    rw [f38]
    simp (disch := omega) only [s183_1, s183_4, s183_5, s183_8, s183_9, s183_12, s183_14, s183_17, s183_18, s183_18i, s183_19, s183_22, s183_23, s183_24, s183_27, s183_28, s183_31, s183_32, s183_34, s183_35, s183_38, s183_41, true_or, or_true, or_false, false_or, or_self, Int32.reduceLT, Int32.reduceLE, Nat.add_zero, Nat.zero_add, Nat.not_lt_zero, not_false_eq_true, not_true_eq_false, and_assoc, kl_q, kl_i, kl_r, kl_n, kl_0, kl_l, cs_0, cs_i, cs_r, cs_n, cs_l, aRf_s, aRf_n, gi_wl, gi_wr, gl_wi, gl_wl, gl_wr, gr_wi, gr_wl, gr_wr, sh_wi, sh_wl, sh_wr, gl_cp, gr_cp, sh_cp, gl_rw, gr_rw, sh_rw, gi_rl, gr_rl, sh_rl, Option.toList_some, Option.toList_none, List.nil_append, List.cons_append, List.append_nil, Option.some.injEq, Prod.mk.injEq, and_true, true_and, and_self, if_true, if_false, reduceCtorEq, Nat.reduceLeDiff, Nat.reduceLT, Nat.reduceAdd, Nat.reduceEqDiff, false_and, and_false, exists_const, exists_eq_left, exists_eq_left', exists_and_left, and_assoc, nltL, nltR, nleL, nleR, neqL, neqR, naL, naR, nmL, nmR, nI_ltI, nI_leI, nI_eq, nI_add, nI_mul, nI_clamp, n0l, n0r, nm1, nm1', nm1l, nm1r, nm1g, nsL, nI_m1, Nat.add_sub_cancel, vpn, vpL, nclL, le32, leLL, leLN, leNL, leNN, inA, nb0, nb1, gi_wi_n, gi_wi_e, gi_rw_n, gi_rw_e, aWi_rw, ifl, ifl_, ifle, ifle_, ifq, ifq_, ifnq, ifnq_, ifnl, ifnl_, ifnle, ifnle_, z399 ok, f1]
    have rc2 : RdM (aWi h1 399 3 (nI (sk B T p + 1))) B T (sk B T p + 1) ts sl e := rc1.at ((Ag.refl ok).wi ⟨rfl, rfl⟩) gi_wi_e
    have b2 : Ag (ML sl) h (aWi h1 399 3 (nI (sk B T p + 1))) := b1.trans ((Ag.refl ok).wi (ml3 ⟨rfl, rfl⟩))
    rcases bnd_of hr with ⟨q1, e1, rfl⟩ | ⟨p1, t1, e1, h5⟩
    · have ps := pr_pos _ _ _ _ _ e1 (by omega)
      unfold PosR at ps
      simp only at ps
      refine i9 e (sk B T p + 1) _ ts sl _ d _ e1 (by omega) he (by omega) rc2 (fun h3 a3 ed => ?_)
      have ed : EdM h3 sl q1 (250 + 10 * (7 - e) + 4) := ed
      have ok := ed.1
      simp (disch := omega) only [s183_1, s183_4, s183_5, s183_8, s183_9, s183_12, s183_14, s183_17, s183_18, s183_18i, s183_19, s183_22, s183_23, s183_24, s183_27, s183_28, s183_31, s183_32, s183_34, s183_35, s183_38, s183_41, true_or, or_true, or_false, false_or, or_self, Int32.reduceLT, Int32.reduceLE, Nat.add_zero, Nat.zero_add, Nat.not_lt_zero, not_false_eq_true, not_true_eq_false, and_assoc, kl_q, kl_i, kl_r, kl_n, kl_0, kl_l, cs_0, cs_i, cs_r, cs_n, cs_l, aRf_s, aRf_n, gi_wl, gi_wr, gl_wi, gl_wl, gl_wr, gr_wi, gr_wl, gr_wr, sh_wi, sh_wl, sh_wr, gl_cp, gr_cp, sh_cp, gl_rw, gr_rw, sh_rw, gi_rl, gr_rl, sh_rl, Option.toList_some, Option.toList_none, List.nil_append, List.cons_append, List.append_nil, Option.some.injEq, Prod.mk.injEq, and_true, true_and, and_self, if_true, if_false, reduceCtorEq, Nat.reduceLeDiff, Nat.reduceLT, Nat.reduceAdd, Nat.reduceEqDiff, false_and, and_false, exists_const, exists_eq_left, exists_eq_left', exists_and_left, and_assoc, nltL, nltR, nleL, nleR, neqL, neqR, naL, naR, nmL, nmR, nI_ltI, nI_leI, nI_eq, nI_add, nI_mul, nI_clamp, n0l, n0r, nm1, nm1', nm1l, nm1r, nm1g, nsL, nI_m1, Nat.add_sub_cancel, vpn, vpL, nclL, le32, leLL, leLN, leNL, leNN, inA, nb0, nb1, gi_wi_n, gi_wi_e, gi_rw_n, gi_rw_e, aWi_rw, ifl, ifl_, ifle, ifle_, ifq, ifq_, ifnq, ifnq_, ifnl, ifnl_, ifnle, ifnle_, z399 ok]
      refine m_putE ed (by omega) (fun h4 a4 ed4 => ?_)
      simp (disch := omega) only [s183_1, s183_4, s183_5, s183_8, s183_9, s183_12, s183_14, s183_17, s183_18, s183_18i, s183_19, s183_22, s183_23, s183_24, s183_27, s183_28, s183_31, s183_32, s183_34, s183_35, s183_38, s183_41, true_or, or_true, or_false, false_or, or_self, Int32.reduceLT, Int32.reduceLE, Nat.add_zero, Nat.zero_add, Nat.not_lt_zero, not_false_eq_true, not_true_eq_false, and_assoc, kl_q, kl_i, kl_r, kl_n, kl_0, kl_l, cs_0, cs_i, cs_r, cs_n, cs_l, aRf_s, aRf_n, gi_wl, gi_wr, gl_wi, gl_wl, gl_wr, gr_wi, gr_wl, gr_wr, sh_wi, sh_wl, sh_wr, gl_cp, gr_cp, sh_cp, gl_rw, gr_rw, sh_rw, gi_rl, gr_rl, sh_rl, Option.toList_some, Option.toList_none, List.nil_append, List.cons_append, List.append_nil, Option.some.injEq, Prod.mk.injEq, and_true, true_and, and_self, if_true, if_false, reduceCtorEq, Nat.reduceLeDiff, Nat.reduceLT, Nat.reduceAdd, Nat.reduceEqDiff, false_and, and_false, exists_const, exists_eq_left, exists_eq_left', exists_and_left, and_assoc]
      rw [m_andE ed4 (by omega)]
      exact hq h4 ((b2.trans a3).trans a4) ed4
    · have ps := pr_pos _ _ _ _ _ e1 (by omega)
      unfold PosR ltM at ps
      simp at ps
      refine i9 e (sk B T p + 1) _ ts sl _ d _ e1 (by omega) he (by omega) rc2 (fun h3 a3 rc3 => ?_)
      have rc3 : RdM h3 B T p1 (ts ++ t1) sl e := rc3
      have ok := rc3.ok
      have l3 : (ts ++ t1).length < 520 := by
        rw [List.length_append]
        omega
      simp (disch := omega) only [s183_1, s183_4, s183_5, s183_8, s183_9, s183_12, s183_14, s183_17, s183_18, s183_18i, s183_19, s183_22, s183_23, s183_24, s183_27, s183_28, s183_31, s183_32, s183_34, s183_35, s183_38, s183_41, true_or, or_true, or_false, false_or, or_self, Int32.reduceLT, Int32.reduceLE, Nat.add_zero, Nat.zero_add, Nat.not_lt_zero, not_false_eq_true, not_true_eq_false, and_assoc, kl_q, kl_i, kl_r, kl_n, kl_0, kl_l, cs_0, cs_i, cs_r, cs_n, cs_l, aRf_s, aRf_n, gi_wl, gi_wr, gl_wi, gl_wl, gl_wr, gr_wi, gr_wl, gr_wr, sh_wi, sh_wl, sh_wr, gl_cp, gr_cp, sh_cp, gl_rw, gr_rw, sh_rw, gi_rl, gr_rl, sh_rl, Option.toList_some, Option.toList_none, List.nil_append, List.cons_append, List.append_nil, Option.some.injEq, Prod.mk.injEq, and_true, true_and, and_self, if_true, if_false, reduceCtorEq, Nat.reduceLeDiff, Nat.reduceLT, Nat.reduceAdd, Nat.reduceEqDiff, false_and, and_false, exists_const, exists_eq_left, exists_eq_left', exists_and_left, and_assoc, nltL, nltR, nleL, nleR, neqL, neqR, naL, naR, nmL, nmR, nI_ltI, nI_leI, nI_eq, nI_add, nI_mul, nI_clamp, n0l, n0r, nm1, nm1', nm1l, nm1r, nm1g, nsL, nI_m1, Nat.add_sub_cancel, vpn, vpL, nclL, le32, leLL, leLN, leNL, leNN, inA, nb0, nb1, gi_wi_n, gi_wi_e, gi_rw_n, gi_rw_e, aWi_rw, ifl, ifl_, ifle, ifle_, ifq, ifq_, ifnq, ifnq_, ifnl, ifnl_, ifnle, ifnle_, z399 ok]
      refine m_put (c := 10) (v := 0) rc3 l3 (fun h4 a4 rc4 => ?_)
      simp (disch := omega) only [s183_1, s183_4, s183_5, s183_8, s183_9, s183_12, s183_14, s183_17, s183_18, s183_18i, s183_19, s183_22, s183_23, s183_24, s183_27, s183_28, s183_31, s183_32, s183_34, s183_35, s183_38, s183_41, true_or, or_true, or_false, false_or, or_self, Int32.reduceLT, Int32.reduceLE, Nat.add_zero, Nat.zero_add, Nat.not_lt_zero, not_false_eq_true, not_true_eq_false, and_assoc, kl_q, kl_i, kl_r, kl_n, kl_0, kl_l, cs_0, cs_i, cs_r, cs_n, cs_l, aRf_s, aRf_n, gi_wl, gi_wr, gl_wi, gl_wl, gl_wr, gr_wi, gr_wl, gr_wr, sh_wi, sh_wl, sh_wr, gl_cp, gr_cp, sh_cp, gl_rw, gr_rw, sh_rw, gi_rl, gr_rl, sh_rl, Option.toList_some, Option.toList_none, List.nil_append, List.cons_append, List.append_nil, Option.some.injEq, Prod.mk.injEq, and_true, true_and, and_self, if_true, if_false, reduceCtorEq, Nat.reduceLeDiff, Nat.reduceLT, Nat.reduceAdd, Nat.reduceEqDiff, false_and, and_false, exists_const, exists_eq_left, exists_eq_left', exists_and_left, and_assoc]
      have l4 : (ts ++ t1 ++ [(10, 0)]).length ≤ p1 := by
        rw [List.length_append, List.length_append, List.length_singleton]
        omega
      rcases bnd_of h5 with ⟨q2, e2, rfl⟩ | ⟨p2, t2, e2, h6⟩
      · exact i8 e p1 _ (ts ++ t1 ++ [(10, 0)]) sl _ d _ e2 ps.2.1 he l4 rc4 (fun h5 a5 ed => hq h5 ((b2.trans a3).trans (a4.trans a5)) ed)
      · cases h6
        refine i8 e p1 _ (ts ++ t1 ++ [(10, 0)]) sl _ d _ e2 ps.2.1 he l4 rc4 (fun h5 a5 rc5 => hq h5 ((b2.trans a3).trans (a4.trans a5)) ?_)
        have rc5 : RdM h5 B T p2 (ts ++ t1 ++ [(10, 0)] ++ t2) sl e := rc5
        have el : ts ++ t1 ++ [(10, 0)] ++ t2 = ts ++ (t1 ++ (10, 0) :: t2) := by simp [List.append_assoc]
        rw [el] at rc5
        exact rc5
  · rw [if_neg b38] at hr
    cases hr
    have n38 : ¬ lkI B T (sk B T p) = 38 := fun q => b38 (l38.mp q)
    simp (disch := omega) only [s183_1, s183_4, s183_5, s183_8, s183_9, s183_12, s183_14, s183_17, s183_18, s183_18i, s183_19, s183_22, s183_23, s183_24, s183_27, s183_28, s183_31, s183_32, s183_34, s183_35, s183_38, s183_41, true_or, or_true, or_false, false_or, or_self, Int32.reduceLT, Int32.reduceLE, Nat.add_zero, Nat.zero_add, Nat.not_lt_zero, not_false_eq_true, not_true_eq_false, and_assoc, kl_q, kl_i, kl_r, kl_n, kl_0, kl_l, cs_0, cs_i, cs_r, cs_n, cs_l, aRf_s, aRf_n, gi_wl, gi_wr, gl_wi, gl_wl, gl_wr, gr_wi, gr_wl, gr_wr, sh_wi, sh_wl, sh_wr, gl_cp, gr_cp, sh_cp, gl_rw, gr_rw, sh_rw, gi_rl, gr_rl, sh_rl, Option.toList_some, Option.toList_none, List.nil_append, List.cons_append, List.append_nil, Option.some.injEq, Prod.mk.injEq, and_true, true_and, and_self, if_true, if_false, reduceCtorEq, Nat.reduceLeDiff, Nat.reduceLT, Nat.reduceAdd, Nat.reduceEqDiff, false_and, and_false, exists_const, exists_eq_left, exists_eq_left', exists_and_left, and_assoc, nltL, nltR, nleL, nleR, neqL, neqR, naL, naR, nmL, nmR, nI_ltI, nI_leI, nI_eq, nI_add, nI_mul, nI_clamp, n0l, n0r, nm1, nm1', nm1l, nm1r, nm1g, nsL, nI_m1, Nat.add_sub_cancel, vpn, vpL, nclL, le32, leLL, leLN, leNL, leNN, inA, nb0, nb1, gi_wi_n, gi_wi_e, gi_rw_n, gi_rw_e, aWi_rw, ifl, ifl_, ifle, ifle_, ifq, ifq_, ifnq, ifnq_, ifnl, ifnl_, ifnle, ifnle_, n38]
    refine hq h1 b1 ?_
    show RdM h1 B T (sk B T p) (ts ++ []) sl e
    rw [List.append_nil]
    exact rc1
theorem simM6 (i9 : SimM B T n 9) (i8 : SimM B T n 8) (i6 : SimM B T n 6) : SimM B T (n + 1) 6 := by
  intro e p r ts sl h d Q hr hp he hl rc hq
  rw [prE6] at hr
  show AW (d + 12 * (7 - e) + 11) 184 0 [some (.ref 399)] [] h Q
  have rc : RdM h B T p ts sl e := rc
  have hs := sk_le (B := B) hp
  have hT := rc.1.2.1
  have hbb := rc.1.2.2.2.2
  have ok := rc.ok
  have w0 := rc.2.2.1
  have l38 := lk_sg (q := sk B T p) hbb (b := 124) (by omega) (by omega)
  rw [show nI 124 = (124 : Int32) from rfl] at l38
  rw [s184_0]
  simp (disch := omega) only [s184_1, s184_4, s184_5, s184_8, s184_9, s184_12, s184_14, s184_17, s184_18, s184_18i, s184_19, s184_22, s184_23, s184_24, s184_27, s184_28, s184_31, s184_32, s184_35, s184_36, s184_38, s184_39, s184_42, s184_45, true_or, or_true, or_false, false_or, or_self, Int32.reduceLT, Int32.reduceLE, Nat.add_zero, Nat.zero_add, Nat.not_lt_zero, not_false_eq_true, not_true_eq_false, and_assoc, kl_q, kl_i, kl_r, kl_n, kl_0, kl_l, cs_0, cs_i, cs_r, cs_n, cs_l, aRf_s, aRf_n, gi_wl, gi_wr, gl_wi, gl_wl, gl_wr, gr_wi, gr_wl, gr_wr, sh_wi, sh_wl, sh_wr, gl_cp, gr_cp, sh_cp, gl_rw, gr_rw, sh_rw, gi_rl, gr_rl, sh_rl, Option.toList_some, Option.toList_none, List.nil_append, List.cons_append, List.append_nil, Option.some.injEq, Prod.mk.injEq, and_true, true_and, and_self, if_true, if_false, reduceCtorEq, Nat.reduceLeDiff, Nat.reduceLT, Nat.reduceAdd, Nat.reduceEqDiff, false_and, and_false, exists_const, exists_eq_left, exists_eq_left', exists_and_left, and_assoc, nltL, nltR, nleL, nleR, neqL, neqR, naL, naR, nmL, nmR, nI_ltI, nI_leI, nI_eq, nI_add, nI_mul, nI_clamp, n0l, n0r, nm1, nm1', nm1l, nm1r, nm1g, nsL, nI_m1, Nat.add_sub_cancel, vpn, vpL, nclL, le32, leLL, leLN, leNL, leNN, inA, nb0, nb1, gi_wi_n, gi_wi_e, gi_rw_n, gi_rw_e, aWi_rw, ifl, ifl_, ifle, ifle_, ifq, ifq_, ifnq, ifnq_, ifnl, ifnl_, ifnle, ifnle_, z399 ok, w0]
  refine m_lookM rc.1 hp rc.2.1 (fun h1 a1 f1 => ?_)
  have rc1 := rc.at a1 f1
  have ok := rc1.ok
  have b1 : Ag (ML sl) h h1 := a1.mono (fun a k z => ml3 z)
  by_cases b38 : sgB B T (sk B T p) = 124
  · rw [if_pos b38] at hr
    have hq1 := sg_lt (by omega) b38
    have f38 := l38.mpr b38
    rw [f38]
    simp (disch := omega) only [s184_12, s184_14, s184_17, s184_18, s184_18i, s184_19, s184_22, s184_23, s184_24, s184_27, s184_28, true_or, or_true, or_false, false_or, or_self, Int32.reduceLT, Int32.reduceLE, Nat.add_zero, Nat.zero_add, Nat.not_lt_zero, not_false_eq_true, not_true_eq_false, and_assoc, kl_q, kl_i, kl_r, kl_n, kl_0, kl_l, cs_0, cs_i, cs_r, cs_n, cs_l, aRf_s, aRf_n, gi_wl, gi_wr, gl_wi, gl_wl, gl_wr, gr_wi, gr_wl, gr_wr, sh_wi, sh_wl, sh_wr, gl_cp, gr_cp, sh_cp, gl_rw, gr_rw, sh_rw, gi_rl, gr_rl, sh_rl, Option.toList_some, Option.toList_none, List.nil_append, List.cons_append, List.append_nil, Option.some.injEq, Prod.mk.injEq, and_true, true_and, and_self, if_true, if_false, reduceCtorEq, Nat.reduceLeDiff, Nat.reduceLT, Nat.reduceAdd, Nat.reduceEqDiff, false_and, and_false, exists_const, exists_eq_left, exists_eq_left', exists_and_left, and_assoc, nltL, nltR, nleL, nleR, neqL, neqR, naL, naR, nmL, nmR, nI_ltI, nI_leI, nI_eq, nI_add, nI_mul, nI_clamp, n0l, n0r, nm1, nm1', nm1l, nm1r, nm1g, nsL, nI_m1, Nat.add_sub_cancel, vpn, vpL, nclL, le32, leLL, leLN, leNL, leNN, inA, nb0, nb1, gi_wi_n, gi_wi_e, gi_rw_n, gi_rw_e, aWi_rw, ifl, ifl_, ifle, ifle_, ifq, ifq_, ifnq, ifnq_, ifnl, ifnl_, ifnle, ifnle_, z399 ok, f1]
    have rc2 : RdM (aWi h1 399 3 (nI (sk B T p + 1))) B T (sk B T p + 1) ts sl e := rc1.at ((Ag.refl ok).wi ⟨rfl, rfl⟩) gi_wi_e
    have b2 : Ag (ML sl) h (aWi h1 399 3 (nI (sk B T p + 1))) := b1.trans ((Ag.refl ok).wi (ml3 ⟨rfl, rfl⟩))
    rw [show d + 12 * (7 - e) + 10 = (d + 1) + 12 * (7 - e) + 9 by omega]
    have err : ∀ h3 q1 J, J ≤ 250 + 10 * (7 - e) + 5 → q1 ≤ T → r = .inl q1 → Ag (ML sl) h h3 → EdM h3 sl q1 J → AW (d + 1 + 12 * (7 - e) + 9 + 1) 184 35 [some (.ref 399)] [] h3 Q := by
      intro h3 q1 J hJ hq9 er a3 ed
      have ok := ed.1
      simp (disch := omega) only [s184_1, s184_4, s184_5, s184_8, s184_9, s184_12, s184_14, s184_17, s184_18, s184_18i, s184_19, s184_22, s184_23, s184_24, s184_27, s184_28, s184_31, s184_32, s184_35, s184_36, s184_38, s184_39, s184_42, s184_45, true_or, or_true, or_false, false_or, or_self, Int32.reduceLT, Int32.reduceLE, Nat.add_zero, Nat.zero_add, Nat.not_lt_zero, not_false_eq_true, not_true_eq_false, and_assoc, kl_q, kl_i, kl_r, kl_n, kl_0, kl_l, cs_0, cs_i, cs_r, cs_n, cs_l, aRf_s, aRf_n, gi_wl, gi_wr, gl_wi, gl_wl, gl_wr, gr_wi, gr_wl, gr_wr, sh_wi, sh_wl, sh_wr, gl_cp, gr_cp, sh_cp, gl_rw, gr_rw, sh_rw, gi_rl, gr_rl, sh_rl, Option.toList_some, Option.toList_none, List.nil_append, List.cons_append, List.append_nil, Option.some.injEq, Prod.mk.injEq, and_true, true_and, and_self, if_true, if_false, reduceCtorEq, Nat.reduceLeDiff, Nat.reduceLT, Nat.reduceAdd, Nat.reduceEqDiff, false_and, and_false, exists_const, exists_eq_left, exists_eq_left', exists_and_left, and_assoc, nltL, nltR, nleL, nleR, neqL, neqR, naL, naR, nmL, nmR, nI_ltI, nI_leI, nI_eq, nI_add, nI_mul, nI_clamp, n0l, n0r, nm1, nm1', nm1l, nm1r, nm1g, nsL, nI_m1, Nat.add_sub_cancel, vpn, vpL, nclL, le32, leLL, leLN, leNL, leNN, inA, nb0, nb1, gi_wi_n, gi_wi_e, gi_rw_n, gi_rw_e, aWi_rw, ifl, ifl_, ifle, ifle_, ifq, ifq_, ifnq, ifnq_, ifnl, ifnl_, ifnle, ifnle_, z399 ok]
      refine m_putE ed (by omega) (fun h4 a4 ed4 => ?_)
      simp (disch := omega) only [s184_1, s184_4, s184_5, s184_8, s184_9, s184_12, s184_14, s184_17, s184_18, s184_18i, s184_19, s184_22, s184_23, s184_24, s184_27, s184_28, s184_31, s184_32, s184_35, s184_36, s184_38, s184_39, s184_42, s184_45, true_or, or_true, or_false, false_or, or_self, Int32.reduceLT, Int32.reduceLE, Nat.add_zero, Nat.zero_add, Nat.not_lt_zero, not_false_eq_true, not_true_eq_false, and_assoc, kl_q, kl_i, kl_r, kl_n, kl_0, kl_l, cs_0, cs_i, cs_r, cs_n, cs_l, aRf_s, aRf_n, gi_wl, gi_wr, gl_wi, gl_wl, gl_wr, gr_wi, gr_wl, gr_wr, sh_wi, sh_wl, sh_wr, gl_cp, gr_cp, sh_cp, gl_rw, gr_rw, sh_rw, gi_rl, gr_rl, sh_rl, Option.toList_some, Option.toList_none, List.nil_append, List.cons_append, List.append_nil, Option.some.injEq, Prod.mk.injEq, and_true, true_and, and_self, if_true, if_false, reduceCtorEq, Nat.reduceLeDiff, Nat.reduceLT, Nat.reduceAdd, Nat.reduceEqDiff, false_and, and_false, exists_const, exists_eq_left, exists_eq_left', exists_and_left, and_assoc]
      rw [m_orE ed4 (by omega)]
      rw [er] at hq
      refine hq h4 (a3.trans a4) (EdM.mono ed4 ?_)
      show _ ≤ 250 + 10 * (7 - e) + 6
      omega
    rcases bnd_of hr with ⟨q1, e1, er⟩ | ⟨p1, t1, e1, h5⟩
    · have ps := pr_pos _ _ _ _ _ e1 (by omega)
      unfold PosR at ps
      simp only at ps
      refine i9 e (sk B T p + 1) _ ts sl _ (d + 1) _ e1 (by omega) he (by omega) rc2 (fun h3 a3 ed => ?_)
      have ed : EdM h3 sl q1 (250 + 10 * (7 - e) + 4) := ed
      have ok := ed.1
      simp (disch := omega) only [s184_31, s184_32, true_or, or_true, or_false, false_or, or_self, Int32.reduceLT, Int32.reduceLE, Nat.add_zero, Nat.zero_add, Nat.not_lt_zero, not_false_eq_true, not_true_eq_false, and_assoc, kl_q, kl_i, kl_r, kl_n, kl_0, kl_l, cs_0, cs_i, cs_r, cs_n, cs_l, aRf_s, aRf_n, gi_wl, gi_wr, gl_wi, gl_wl, gl_wr, gr_wi, gr_wl, gr_wr, sh_wi, sh_wl, sh_wr, gl_cp, gr_cp, sh_cp, gl_rw, gr_rw, sh_rw, gi_rl, gr_rl, sh_rl, Option.toList_some, Option.toList_none, List.nil_append, List.cons_append, List.append_nil, Option.some.injEq, Prod.mk.injEq, and_true, true_and, and_self, if_true, if_false, reduceCtorEq, Nat.reduceLeDiff, Nat.reduceLT, Nat.reduceAdd, Nat.reduceEqDiff, false_and, and_false, exists_const, exists_eq_left, exists_eq_left', exists_and_left, and_assoc, nltL, nltR, nleL, nleR, neqL, neqR, naL, naR, nmL, nmR, nI_ltI, nI_leI, nI_eq, nI_add, nI_mul, nI_clamp, n0l, n0r, nm1, nm1', nm1l, nm1r, nm1g, nsL, nI_m1, Nat.add_sub_cancel, vpn, vpL, nclL, le32, leLL, leLN, leNL, leNN, inA, nb0, nb1, gi_wi_n, gi_wi_e, gi_rw_n, gi_rw_e, aWi_rw, ifl, ifl_, ifle, ifle_, ifq, ifq_, ifnq, ifnq_, ifnl, ifnl_, ifnle, ifnle_, z399 ok, m_andE ed (show q1 < 2 ^ 31 by omega)]
      exact err h3 q1 _ (by omega) ps.2 er (b2.trans a3) ed
    · have ps := pr_pos _ _ _ _ _ e1 (by omega)
      unfold PosR ltM at ps
      simp at ps
      refine i9 e (sk B T p + 1) _ ts sl _ (d + 1) _ e1 (by omega) he (by omega) rc2 (fun h3 a3 rc3 => ?_)
      have rc3 : RdM h3 B T p1 (ts ++ t1) sl e := rc3
      have ok := rc3.ok
      have l3 : (ts ++ t1).length ≤ p1 := by
        rw [List.length_append]
        omega
      simp (disch := omega) only [s184_31, s184_32, true_or, or_true, or_false, false_or, or_self, Int32.reduceLT, Int32.reduceLE, Nat.add_zero, Nat.zero_add, Nat.not_lt_zero, not_false_eq_true, not_true_eq_false, and_assoc, kl_q, kl_i, kl_r, kl_n, kl_0, kl_l, cs_0, cs_i, cs_r, cs_n, cs_l, aRf_s, aRf_n, gi_wl, gi_wr, gl_wi, gl_wl, gl_wr, gr_wi, gr_wl, gr_wr, sh_wi, sh_wl, sh_wr, gl_cp, gr_cp, sh_cp, gl_rw, gr_rw, sh_rw, gi_rl, gr_rl, sh_rl, Option.toList_some, Option.toList_none, List.nil_append, List.cons_append, List.append_nil, Option.some.injEq, Prod.mk.injEq, and_true, true_and, and_self, if_true, if_false, reduceCtorEq, Nat.reduceLeDiff, Nat.reduceLT, Nat.reduceAdd, Nat.reduceEqDiff, false_and, and_false, exists_const, exists_eq_left, exists_eq_left', exists_and_left, and_assoc, nltL, nltR, nleL, nleR, neqL, neqR, naL, naR, nmL, nmR, nI_ltI, nI_leI, nI_eq, nI_add, nI_mul, nI_clamp, n0l, n0r, nm1, nm1', nm1l, nm1r, nm1g, nsL, nI_m1, Nat.add_sub_cancel, vpn, vpL, nclL, le32, leLL, leLN, leNL, leNN, inA, nb0, nb1, gi_wi_n, gi_wi_e, gi_rw_n, gi_rw_e, aWi_rw, ifl, ifl_, ifle, ifle_, ifq, ifq_, ifnq, ifnq_, ifnl, ifnl_, ifnle, ifnle_, z399 ok]
      rw [show d + 1 + 12 * (7 - e) + 9 = d + 12 * (7 - e) + 10 by omega] at err ⊢
      rcases bnd_of h5 with ⟨q2, e2, er⟩ | ⟨p2, t2, e2, h6⟩
      · have ps2 := pr_pos _ _ _ _ _ e2 (by omega)
        unfold PosR at ps2
        simp only at ps2
        refine i8 e p1 _ (ts ++ t1) sl _ d _ e2 ps.2.1 he l3 rc3 (fun h4 a4 ed => ?_)
        simp only [true_or, or_true, or_false, false_or, or_self, Int32.reduceLT, Int32.reduceLE, Nat.add_zero, Nat.zero_add, Nat.not_lt_zero, not_false_eq_true, not_true_eq_false, and_assoc, kl_q, kl_i, kl_r, kl_n, kl_0, kl_l, cs_0, cs_i, cs_r, cs_n, cs_l, aRf_s, aRf_n, gi_wl, gi_wr, gl_wi, gl_wl, gl_wr, gr_wi, gr_wl, gr_wr, sh_wi, sh_wl, sh_wr, gl_cp, gr_cp, sh_cp, gl_rw, gr_rw, sh_rw, gi_rl, gr_rl, sh_rl, Option.toList_some, Option.toList_none, List.nil_append, List.cons_append, List.append_nil, Option.some.injEq, Prod.mk.injEq, and_true, true_and, and_self, if_true, if_false, reduceCtorEq, Nat.reduceLeDiff, Nat.reduceLT, Nat.reduceAdd, Nat.reduceEqDiff, false_and, and_false, exists_const, exists_eq_left, exists_eq_left', exists_and_left, and_assoc]
        exact err h4 q2 _ (Nat.le_refl _) ps2.2 er ((b2.trans a3).trans a4) ed
      · have ps2 := pr_pos _ _ _ _ _ e2 ps.2.1
        unfold PosR ltM at ps2
        simp at ps2
        refine i8 e p1 _ (ts ++ t1) sl _ d _ e2 ps.2.1 he l3 rc3 (fun h4 a4 rc4 => ?_)
        have rc4 : RdM h4 B T p2 (ts ++ t1 ++ t2) sl e := rc4
        have ok := rc4.ok
        have l4 : (ts ++ t1 ++ t2).length < 520 := by
          rw [List.length_append, List.length_append]
          omega
        simp (disch := omega) only [s184_1, s184_4, s184_5, s184_8, s184_9, s184_12, s184_14, s184_17, s184_18, s184_18i, s184_19, s184_22, s184_23, s184_24, s184_27, s184_28, s184_31, s184_32, s184_35, s184_36, s184_38, s184_39, s184_42, s184_45, true_or, or_true, or_false, false_or, or_self, Int32.reduceLT, Int32.reduceLE, Nat.add_zero, Nat.zero_add, Nat.not_lt_zero, not_false_eq_true, not_true_eq_false, and_assoc, kl_q, kl_i, kl_r, kl_n, kl_0, kl_l, cs_0, cs_i, cs_r, cs_n, cs_l, aRf_s, aRf_n, gi_wl, gi_wr, gl_wi, gl_wl, gl_wr, gr_wi, gr_wl, gr_wr, sh_wi, sh_wl, sh_wr, gl_cp, gr_cp, sh_cp, gl_rw, gr_rw, sh_rw, gi_rl, gr_rl, sh_rl, Option.toList_some, Option.toList_none, List.nil_append, List.cons_append, List.append_nil, Option.some.injEq, Prod.mk.injEq, and_true, true_and, and_self, if_true, if_false, reduceCtorEq, Nat.reduceLeDiff, Nat.reduceLT, Nat.reduceAdd, Nat.reduceEqDiff, false_and, and_false, exists_const, exists_eq_left, exists_eq_left', exists_and_left, and_assoc, nltL, nltR, nleL, nleR, neqL, neqR, naL, naR, nmL, nmR, nI_ltI, nI_leI, nI_eq, nI_add, nI_mul, nI_clamp, n0l, n0r, nm1, nm1', nm1l, nm1r, nm1g, nsL, nI_m1, Nat.add_sub_cancel, vpn, vpL, nclL, le32, leLL, leLN, leNL, leNN, inA, nb0, nb1, gi_wi_n, gi_wi_e, gi_rw_n, gi_rw_e, aWi_rw, ifl, ifl_, ifle, ifle_, ifq, ifq_, ifnq, ifnq_, ifnl, ifnl_, ifnle, ifnle_, z399 ok]
        refine m_put (c := 11) (v := 0) rc4 l4 (fun h5 a5 rc5 => ?_)
        simp (disch := omega) only [s184_1, s184_4, s184_5, s184_8, s184_9, s184_12, s184_14, s184_17, s184_18, s184_18i, s184_19, s184_22, s184_23, s184_24, s184_27, s184_28, s184_31, s184_32, s184_35, s184_36, s184_38, s184_39, s184_42, s184_45, true_or, or_true, or_false, false_or, or_self, Int32.reduceLT, Int32.reduceLE, Nat.add_zero, Nat.zero_add, Nat.not_lt_zero, not_false_eq_true, not_true_eq_false, and_assoc, kl_q, kl_i, kl_r, kl_n, kl_0, kl_l, cs_0, cs_i, cs_r, cs_n, cs_l, aRf_s, aRf_n, gi_wl, gi_wr, gl_wi, gl_wl, gl_wr, gr_wi, gr_wl, gr_wr, sh_wi, sh_wl, sh_wr, gl_cp, gr_cp, sh_cp, gl_rw, gr_rw, sh_rw, gi_rl, gr_rl, sh_rl, Option.toList_some, Option.toList_none, List.nil_append, List.cons_append, List.append_nil, Option.some.injEq, Prod.mk.injEq, and_true, true_and, and_self, if_true, if_false, reduceCtorEq, Nat.reduceLeDiff, Nat.reduceLT, Nat.reduceAdd, Nat.reduceEqDiff, false_and, and_false, exists_const, exists_eq_left, exists_eq_left', exists_and_left, and_assoc]
        have l5 : (ts ++ t1 ++ t2 ++ [(11, 0)]).length ≤ p2 := by
          rw [List.length_append, List.length_append, List.length_append, List.length_singleton]
          omega
        rcases bnd_of h6 with ⟨q3, e3, rfl⟩ | ⟨p3, t3, e3, h7⟩
        · exact i6 e p2 _ (ts ++ t1 ++ t2 ++ [(11, 0)]) sl _ d _ e3 ps2.2.1 he l5 rc5 (fun h6 a6 ed => hq h6 ((b2.trans a3).trans (a4.trans (a5.trans a6))) ed)
        · cases h7
          refine i6 e p2 _ (ts ++ t1 ++ t2 ++ [(11, 0)]) sl _ d _ e3 ps2.2.1 he l5 rc5 (fun h6 a6 rc6 => hq h6 ((b2.trans a3).trans (a4.trans (a5.trans a6))) ?_)
          have rc6 : RdM h6 B T p3 (ts ++ t1 ++ t2 ++ [(11, 0)] ++ t3) sl e := rc6
          have el : ts ++ t1 ++ t2 ++ [(11, 0)] ++ t3 = ts ++ (t1 ++ t2 ++ (11, 0) :: t3) := by simp [List.append_assoc]
          rw [el] at rc6
          exact rc6
  · rw [if_neg b38] at hr
    cases hr
    have n38 : ¬ lkI B T (sk B T p) = 124 := fun q => b38 (l38.mp q)
    simp (disch := omega) only [s184_1, s184_4, s184_5, s184_8, s184_9, s184_12, s184_14, s184_17, s184_18, s184_18i, s184_19, s184_22, s184_23, s184_24, s184_27, s184_28, s184_31, s184_32, s184_35, s184_36, s184_38, s184_39, s184_42, s184_45, true_or, or_true, or_false, false_or, or_self, Int32.reduceLT, Int32.reduceLE, Nat.add_zero, Nat.zero_add, Nat.not_lt_zero, not_false_eq_true, not_true_eq_false, and_assoc, kl_q, kl_i, kl_r, kl_n, kl_0, kl_l, cs_0, cs_i, cs_r, cs_n, cs_l, aRf_s, aRf_n, gi_wl, gi_wr, gl_wi, gl_wl, gl_wr, gr_wi, gr_wl, gr_wr, sh_wi, sh_wl, sh_wr, gl_cp, gr_cp, sh_cp, gl_rw, gr_rw, sh_rw, gi_rl, gr_rl, sh_rl, Option.toList_some, Option.toList_none, List.nil_append, List.cons_append, List.append_nil, Option.some.injEq, Prod.mk.injEq, and_true, true_and, and_self, if_true, if_false, reduceCtorEq, Nat.reduceLeDiff, Nat.reduceLT, Nat.reduceAdd, Nat.reduceEqDiff, false_and, and_false, exists_const, exists_eq_left, exists_eq_left', exists_and_left, and_assoc, nltL, nltR, nleL, nleR, neqL, neqR, naL, naR, nmL, nmR, nI_ltI, nI_leI, nI_eq, nI_add, nI_mul, nI_clamp, n0l, n0r, nm1, nm1', nm1l, nm1r, nm1g, nsL, nI_m1, Nat.add_sub_cancel, vpn, vpL, nclL, le32, leLL, leLN, leNL, leNN, inA, nb0, nb1, gi_wi_n, gi_wi_e, gi_rw_n, gi_rw_e, aWi_rw, ifl, ifl_, ifle, ifle_, ifq, ifq_, ifnq, ifnq_, ifnl, ifnl_, ifnle, ifnle_, n38]
    refine hq h1 b1 ?_
    show RdM h1 B T (sk B T p) (ts ++ []) sl e
    rw [List.append_nil]
    exact rc1
theorem simM5 (i9 : SimM B T n 9) (i8 : SimM B T n 8) (i6 : SimM B T n 6) : SimM B T (n + 1) 5 := by
  intro e p r ts sl h d Q hr hp he hl rc hq
  rw [prE5] at hr
  show AW (d + 12 * (7 - e) + 12) 185 0 [some (.ref 399)] [] h Q
  have rc : RdM h B T p ts sl e := rc
  have hT := rc.1.2.1
  have ok := rc.ok
  simp (disch := omega) only [s185_0, s185_1, true_or, or_true, or_false, false_or, or_self, Int32.reduceLT, Int32.reduceLE, Nat.add_zero, Nat.zero_add, Nat.not_lt_zero, not_false_eq_true, not_true_eq_false, and_assoc, kl_q, kl_i, kl_r, kl_n, kl_0, kl_l, cs_0, cs_i, cs_r, cs_n, cs_l, aRf_s, aRf_n, gi_wl, gi_wr, gl_wi, gl_wl, gl_wr, gr_wi, gr_wl, gr_wr, sh_wi, sh_wl, sh_wr, gl_cp, gr_cp, sh_cp, gl_rw, gr_rw, sh_rw, gi_rl, gr_rl, sh_rl, Option.toList_some, Option.toList_none, List.nil_append, List.cons_append, List.append_nil, Option.some.injEq, Prod.mk.injEq, and_true, true_and, and_self, if_true, if_false, reduceCtorEq, Nat.reduceLeDiff, Nat.reduceLT, Nat.reduceAdd, Nat.reduceEqDiff, false_and, and_false, exists_const, exists_eq_left, exists_eq_left', exists_and_left, and_assoc, nltL, nltR, nleL, nleR, neqL, neqR, naL, naR, nmL, nmR, nI_ltI, nI_leI, nI_eq, nI_add, nI_mul, nI_clamp, n0l, n0r, nm1, nm1', nm1l, nm1r, nm1g, nsL, nI_m1, Nat.add_sub_cancel, vpn, vpL, nclL, le32, leLL, leLN, leNL, leNN, inA, nb0, nb1, gi_wi_n, gi_wi_e, gi_rw_n, gi_rw_e, aWi_rw, ifl, ifl_, ifle, ifle_, ifq, ifq_, ifnq, ifnq_, ifnl, ifnl_, ifnle, ifnle_, z399 ok]
  rw [show d + 12 * (7 - e) + 11 = (d + 2) + 12 * (7 - e) + 9 by omega]
  rcases bnd_of hr with ⟨q1, e1, rfl⟩ | ⟨p1, t1, e1, h5⟩
  · have ps := pr_pos _ _ _ _ _ e1 hp
    unfold PosR at ps
    simp only at ps
    refine i9 e p _ ts sl _ (d + 2) _ e1 hp he hl rc (fun h3 a3 ed => ?_)
    have ed : EdM h3 sl q1 (250 + 10 * (7 - e) + 4) := ed
    have ok := ed.1
    simp (disch := omega) only [s185_0, s185_1, s185_4, s185_5, s185_8, s185_9, s185_12, true_or, or_true, or_false, false_or, or_self, Int32.reduceLT, Int32.reduceLE, Nat.add_zero, Nat.zero_add, Nat.not_lt_zero, not_false_eq_true, not_true_eq_false, and_assoc, kl_q, kl_i, kl_r, kl_n, kl_0, kl_l, cs_0, cs_i, cs_r, cs_n, cs_l, aRf_s, aRf_n, gi_wl, gi_wr, gl_wi, gl_wl, gl_wr, gr_wi, gr_wl, gr_wr, sh_wi, sh_wl, sh_wr, gl_cp, gr_cp, sh_cp, gl_rw, gr_rw, sh_rw, gi_rl, gr_rl, sh_rl, Option.toList_some, Option.toList_none, List.nil_append, List.cons_append, List.append_nil, Option.some.injEq, Prod.mk.injEq, and_true, true_and, and_self, if_true, if_false, reduceCtorEq, Nat.reduceLeDiff, Nat.reduceLT, Nat.reduceAdd, Nat.reduceEqDiff, false_and, and_false, exists_const, exists_eq_left, exists_eq_left', exists_and_left, and_assoc, nltL, nltR, nleL, nleR, neqL, neqR, naL, naR, nmL, nmR, nI_ltI, nI_leI, nI_eq, nI_add, nI_mul, nI_clamp, n0l, n0r, nm1, nm1', nm1l, nm1r, nm1g, nsL, nI_m1, Nat.add_sub_cancel, vpn, vpL, nclL, le32, leLL, leLN, leNL, leNN, inA, nb0, nb1, gi_wi_n, gi_wi_e, gi_rw_n, gi_rw_e, aWi_rw, ifl, ifl_, ifle, ifle_, ifq, ifq_, ifnq, ifnq_, ifnl, ifnl_, ifnle, ifnle_, z399 ok, m_andE ed (show q1 < 2 ^ 31 by omega), m_orE ed (show q1 < 2 ^ 31 by omega)]
    refine hq h3 a3 (EdM.mono ed ?_)
    show _ ≤ 250 + 10 * (7 - e) + 6
    omega
  · have ps := pr_pos _ _ _ _ _ e1 hp
    unfold PosR ltM at ps
    simp at ps
    refine i9 e p _ ts sl _ (d + 2) _ e1 hp he hl rc (fun h3 a3 rc3 => ?_)
    have rc3 : RdM h3 B T p1 (ts ++ t1) sl e := rc3
    have ok := rc3.ok
    have l3 : (ts ++ t1).length ≤ p1 := by
      rw [List.length_append]
      omega
    simp (disch := omega) only [s185_4, s185_5, true_or, or_true, or_false, false_or, or_self, Int32.reduceLT, Int32.reduceLE, Nat.add_zero, Nat.zero_add, Nat.not_lt_zero, not_false_eq_true, not_true_eq_false, and_assoc, kl_q, kl_i, kl_r, kl_n, kl_0, kl_l, cs_0, cs_i, cs_r, cs_n, cs_l, aRf_s, aRf_n, gi_wl, gi_wr, gl_wi, gl_wl, gl_wr, gr_wi, gr_wl, gr_wr, sh_wi, sh_wl, sh_wr, gl_cp, gr_cp, sh_cp, gl_rw, gr_rw, sh_rw, gi_rl, gr_rl, sh_rl, Option.toList_some, Option.toList_none, List.nil_append, List.cons_append, List.append_nil, Option.some.injEq, Prod.mk.injEq, and_true, true_and, and_self, if_true, if_false, reduceCtorEq, Nat.reduceLeDiff, Nat.reduceLT, Nat.reduceAdd, Nat.reduceEqDiff, false_and, and_false, exists_const, exists_eq_left, exists_eq_left', exists_and_left, and_assoc, nltL, nltR, nleL, nleR, neqL, neqR, naL, naR, nmL, nmR, nI_ltI, nI_leI, nI_eq, nI_add, nI_mul, nI_clamp, n0l, n0r, nm1, nm1', nm1l, nm1r, nm1g, nsL, nI_m1, Nat.add_sub_cancel, vpn, vpL, nclL, le32, leLL, leLN, leNL, leNN, inA, nb0, nb1, gi_wi_n, gi_wi_e, gi_rw_n, gi_rw_e, aWi_rw, ifl, ifl_, ifle, ifle_, ifq, ifq_, ifnq, ifnq_, ifnl, ifnl_, ifnle, ifnle_, z399 ok]
    rw [show d + 2 + 12 * (7 - e) + 9 = (d + 1) + 12 * (7 - e) + 10 by omega]
    rcases bnd_of h5 with ⟨q2, e2, rfl⟩ | ⟨p2, t2, e2, h6⟩
    · have ps2 := pr_pos _ _ _ _ _ e2 ps.2.1
      unfold PosR at ps2
      simp only at ps2
      refine i8 e p1 _ (ts ++ t1) sl _ (d + 1) _ e2 ps.2.1 he l3 rc3 (fun h4 a4 ed => ?_)
      have ed : EdM h4 sl q2 (250 + 10 * (7 - e) + 5) := ed
      have ok := ed.1
      simp (disch := omega) only [s185_0, s185_1, s185_4, s185_5, s185_8, s185_9, s185_12, true_or, or_true, or_false, false_or, or_self, Int32.reduceLT, Int32.reduceLE, Nat.add_zero, Nat.zero_add, Nat.not_lt_zero, not_false_eq_true, not_true_eq_false, and_assoc, kl_q, kl_i, kl_r, kl_n, kl_0, kl_l, cs_0, cs_i, cs_r, cs_n, cs_l, aRf_s, aRf_n, gi_wl, gi_wr, gl_wi, gl_wl, gl_wr, gr_wi, gr_wl, gr_wr, sh_wi, sh_wl, sh_wr, gl_cp, gr_cp, sh_cp, gl_rw, gr_rw, sh_rw, gi_rl, gr_rl, sh_rl, Option.toList_some, Option.toList_none, List.nil_append, List.cons_append, List.append_nil, Option.some.injEq, Prod.mk.injEq, and_true, true_and, and_self, if_true, if_false, reduceCtorEq, Nat.reduceLeDiff, Nat.reduceLT, Nat.reduceAdd, Nat.reduceEqDiff, false_and, and_false, exists_const, exists_eq_left, exists_eq_left', exists_and_left, and_assoc, nltL, nltR, nleL, nleR, neqL, neqR, naL, naR, nmL, nmR, nI_ltI, nI_leI, nI_eq, nI_add, nI_mul, nI_clamp, n0l, n0r, nm1, nm1', nm1l, nm1r, nm1g, nsL, nI_m1, Nat.add_sub_cancel, vpn, vpL, nclL, le32, leLL, leLN, leNL, leNN, inA, nb0, nb1, gi_wi_n, gi_wi_e, gi_rw_n, gi_rw_e, aWi_rw, ifl, ifl_, ifle, ifle_, ifq, ifq_, ifnq, ifnq_, ifnl, ifnl_, ifnle, ifnle_, z399 ok, m_orE ed (show q2 < 2 ^ 31 by omega)]
      refine hq h4 (a3.trans a4) (EdM.mono ed ?_)
      show _ ≤ 250 + 10 * (7 - e) + 6
      omega
    · have ps2 := pr_pos _ _ _ _ _ e2 ps.2.1
      unfold PosR ltM at ps2
      simp at ps2
      refine i8 e p1 _ (ts ++ t1) sl _ (d + 1) _ e2 ps.2.1 he l3 rc3 (fun h4 a4 rc4 => ?_)
      have rc4 : RdM h4 B T p2 (ts ++ t1 ++ t2) sl e := rc4
      have ok := rc4.ok
      have l4 : (ts ++ t1 ++ t2).length ≤ p2 := by
        rw [List.length_append]
        omega
      simp (disch := omega) only [s185_0, s185_1, s185_4, s185_5, s185_8, s185_9, s185_12, true_or, or_true, or_false, false_or, or_self, Int32.reduceLT, Int32.reduceLE, Nat.add_zero, Nat.zero_add, Nat.not_lt_zero, not_false_eq_true, not_true_eq_false, and_assoc, kl_q, kl_i, kl_r, kl_n, kl_0, kl_l, cs_0, cs_i, cs_r, cs_n, cs_l, aRf_s, aRf_n, gi_wl, gi_wr, gl_wi, gl_wl, gl_wr, gr_wi, gr_wl, gr_wr, sh_wi, sh_wl, sh_wr, gl_cp, gr_cp, sh_cp, gl_rw, gr_rw, sh_rw, gi_rl, gr_rl, sh_rl, Option.toList_some, Option.toList_none, List.nil_append, List.cons_append, List.append_nil, Option.some.injEq, Prod.mk.injEq, and_true, true_and, and_self, if_true, if_false, reduceCtorEq, Nat.reduceLeDiff, Nat.reduceLT, Nat.reduceAdd, Nat.reduceEqDiff, false_and, and_false, exists_const, exists_eq_left, exists_eq_left', exists_and_left, and_assoc, nltL, nltR, nleL, nleR, neqL, neqR, naL, naR, nmL, nmR, nI_ltI, nI_leI, nI_eq, nI_add, nI_mul, nI_clamp, n0l, n0r, nm1, nm1', nm1l, nm1r, nm1g, nsL, nI_m1, Nat.add_sub_cancel, vpn, vpL, nclL, le32, leLL, leLN, leNL, leNN, inA, nb0, nb1, gi_wi_n, gi_wi_e, gi_rw_n, gi_rw_e, aWi_rw, ifl, ifl_, ifle, ifle_, ifq, ifq_, ifnq, ifnq_, ifnl, ifnl_, ifnle, ifnle_, z399 ok]
      rw [show d + 1 + 12 * (7 - e) + 10 = d + 12 * (7 - e) + 11 by omega]
      rcases bnd_of h6 with ⟨q3, e3, rfl⟩ | ⟨p3, t3, e3, h7⟩
      · refine i6 e p2 _ (ts ++ t1 ++ t2) sl _ d _ e3 ps2.2.1 he l4 rc4 (fun h5 a5 ed => ?_)
        simp (disch := omega) only [s185_0, s185_1, s185_4, s185_5, s185_8, s185_9, s185_12, true_or, or_true, or_false, false_or, or_self, Int32.reduceLT, Int32.reduceLE, Nat.add_zero, Nat.zero_add, Nat.not_lt_zero, not_false_eq_true, not_true_eq_false, and_assoc, kl_q, kl_i, kl_r, kl_n, kl_0, kl_l, cs_0, cs_i, cs_r, cs_n, cs_l, aRf_s, aRf_n, gi_wl, gi_wr, gl_wi, gl_wl, gl_wr, gr_wi, gr_wl, gr_wr, sh_wi, sh_wl, sh_wr, gl_cp, gr_cp, sh_cp, gl_rw, gr_rw, sh_rw, gi_rl, gr_rl, sh_rl, Option.toList_some, Option.toList_none, List.nil_append, List.cons_append, List.append_nil, Option.some.injEq, Prod.mk.injEq, and_true, true_and, and_self, if_true, if_false, reduceCtorEq, Nat.reduceLeDiff, Nat.reduceLT, Nat.reduceAdd, Nat.reduceEqDiff, false_and, and_false, exists_const, exists_eq_left, exists_eq_left', exists_and_left, and_assoc]
        exact hq h5 (a3.trans (a4.trans a5)) ed
      · cases h7
        refine i6 e p2 _ (ts ++ t1 ++ t2) sl _ d _ e3 ps2.2.1 he l4 rc4 (fun h5 a5 rc5 => ?_)
        simp (disch := omega) only [s185_0, s185_1, s185_4, s185_5, s185_8, s185_9, s185_12, true_or, or_true, or_false, false_or, or_self, Int32.reduceLT, Int32.reduceLE, Nat.add_zero, Nat.zero_add, Nat.not_lt_zero, not_false_eq_true, not_true_eq_false, and_assoc, kl_q, kl_i, kl_r, kl_n, kl_0, kl_l, cs_0, cs_i, cs_r, cs_n, cs_l, aRf_s, aRf_n, gi_wl, gi_wr, gl_wi, gl_wl, gl_wr, gr_wi, gr_wl, gr_wr, sh_wi, sh_wl, sh_wr, gl_cp, gr_cp, sh_cp, gl_rw, gr_rw, sh_rw, gi_rl, gr_rl, sh_rl, Option.toList_some, Option.toList_none, List.nil_append, List.cons_append, List.append_nil, Option.some.injEq, Prod.mk.injEq, and_true, true_and, and_self, if_true, if_false, reduceCtorEq, Nat.reduceLeDiff, Nat.reduceLT, Nat.reduceAdd, Nat.reduceEqDiff, false_and, and_false, exists_const, exists_eq_left, exists_eq_left', exists_and_left, and_assoc]
        refine hq h5 (a3.trans (a4.trans a5)) ?_
        have rc5 : RdM h5 B T p3 (ts ++ t1 ++ t2 ++ t3) sl e := rc5
        have el : ts ++ t1 ++ t2 ++ t3 = ts ++ (t1 ++ t2 ++ t3) := by simp [List.append_assoc]
        rw [el] at rc5
        exact rc5
end M4
