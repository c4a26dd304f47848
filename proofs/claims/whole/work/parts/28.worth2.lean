-- deps: 27.worth
theorem mw_worth {d : Nat} {h : aM} {Q : Option Value → aM → Prop} {i : Nat} {lt : Nat → Int32} (ok : OK h) (hi : i < 4) (lw : LwR h i) (hl0 : ∀ l, l < 6 → gi h 408 l = lt l) (hlt : ∀ l, l < 6 → bd (lt l)) (hq : ∀ h', SmL h h' → Q (some (.int (wfL h i lt))) h') :
    AW (d + 4) 193 0 [some (.ref 399), some (.int (nI i)), none] [] h Q := by
  obtain ⟨s, c, hs, hc, k1, k2, k3, k4, k5⟩ := lw
  simp (disch := omega) only [s193_0, s193_3, s193_4, s193_5, s193_7, s193_10, s193_11, s193_12, s193_13, s193_16, s193_17, s193_18, s193_19, s193_22, s193_23, s193_26, s193_27, s193_28, s193_29, s193_32, s193_33, s193_34, s193_37, s193_38, s193_39, s193_40, s193_43, s193_44, s193_45, s193_46, s193_49, s193_50, s193_51, s193_54, s193_57, s193_58, s193_59, s193_60, s193_63, s193_64, s193_65, s193_66, s193_69, s193_70, s193_71, s193_74, s193_75, s193_78, s193_81, s193_82, true_or, or_true, or_false, false_or, or_self, Int32.reduceLT, Int32.reduceLE, Nat.add_zero, Nat.zero_add, Nat.not_lt_zero, not_false_eq_true, not_true_eq_false, and_assoc, kl_q, kl_i, kl_r, kl_n, kl_0, kl_l, cs_0, cs_i, cs_r, cs_n, cs_l, aRf_s, aRf_n, gi_wl, gi_wr, gl_wi, gl_wl, gl_wr, gr_wi, gr_wl, gr_wr, sh_wi, sh_wl, sh_wr, gl_cp, gr_cp, sh_cp, gl_rw, gr_rw, sh_rw, gi_rl, gr_rl, sh_rl, Option.toList_some, Option.toList_none, List.nil_append, List.cons_append, List.append_nil, Option.some.injEq, Prod.mk.injEq, and_true, true_and, and_self, if_true, if_false, reduceCtorEq, Nat.reduceLeDiff, Nat.reduceLT, Nat.reduceAdd, Nat.reduceEqDiff, false_and, and_false, exists_const, exists_eq_left, exists_eq_left', exists_and_left, and_assoc, nltL, nltR, nleL, nleR, neqL, neqR, naL, naR, nmL, nmR, nI_ltI, nI_leI, nI_eq, nI_add, nI_mul, nI_clamp, n0l, n0r, nm1, nm1', nm1l, nm1r, nm1g, nsL, nI_m1, Nat.add_sub_cancel, vpn, vpL, nclL, le32, leLL, leLN, leNL, leNN, inA, nb0, nb1, gi_wi_n, gi_wi_e, gi_rw_n, gi_rw_e, aWi_rw]
  refine aLoop c (fun q lv h' => lv = [some (.ref 399), some (.int (nI i)), some (.int (nI (140 * i + q)))] ∧ SmL h h' ∧ (∀ l, l < 6 → gi h' 408 l = lt l) ∧ wfL h i lt = lwV h i lt (c - q) q) ?_ ?_ 0 _ _ (Nat.zero_le _) ⟨rfl, SmL.refl ok, hl0, ?_⟩
  · rintro q lv h' hqc ⟨rfl, sm, hl, hv⟩ hk
    obtain ⟨a, b, e, ab, be, es, f1, f2, f3, f4, f5, f6, f7, f8⟩ := k5 q hqc
    have tk : ∀ p0 n, p0 + n ≤ s → ∀ p, p < n → tkOK (segC h i p0 p) (segV h i p0 p) := fun p0 n hn p hp => by
      have := k4 (p0 + p) (by omega)
      unfold segC segV
      rw [Nat.add_assoc]
      exact this.2
    have hv2 : lwV h i lt (c - q) q = if a = b ∨ ¬ (evS lt (segC h i a) (segV h i a) (b - a)).headD 0 = 0 then (evS lt (segC h i b) (segV h i b) (e - b)).headD 0 else lwV h i lt (c - (q + 1)) (q + 1) := by
      rw [show c - q = (c - (q + 1)) + 1 by omega, lwV, f2, f4, f5]
      unfold cN
      rw [nI_clamp (by omega), nI_clamp (by omega), nI_clamp (by omega)]
      simp only [nI_eq (show a < 2 ^ 31 by omega) (show b < 2 ^ 31 by omega)]
    rw [hv2] at hv
    have run : ∀ (h2 : aM) (Q2 : Option Value → aM → Prop) (p0 p1 : Nat) (ty : Bool), p0 ≤ p1 → p1 ≤ s → tyS (segC h i p0) [] (p1 - p0) = some [ty] → SmL h h2 → (∀ l, l < 6 → gi h2 408 l = lt l) → (∀ h3, SmL h h3 → (∀ l, l < 6 → gi h3 408 l = lt l) → Q2 (some (.int ((evS lt (segC h i p0) (segV h i p0) (p1 - p0)).headD 0))) h3) →
        AW (d + 3) 192 0 [some (.ref 399), some (.int (nI i)), some (.int (nI p0)), some (.int (nI p1)), none, none] [] h2 Q2 := by
      intro h2 Q2 p0 p1 ty h01 h1s hty s2 hl2 hq2
      rw [show nI p1 = nI (p0 + (p1 - p0)) by rw [show p0 + (p1 - p0) = p1 by omega]]
      refine mw_work (c := segC h i p0) (v := segV h i p0) (lt := lt) (ty := ty) s2.1 hi (by omega) ?_ hty hl2 hlt (ev_one hlt (fun p hp => tk p0 (p1 - p0) (by omega) p hp) hty) ?_
      · intro p hp
        refine ⟨s2.2.2.2 _ _ rfl, s2.2.2.2 _ _ rfl, tk p0 (p1 - p0) (by omega) p hp⟩
      · intro f
        refine hq2 _ (s2.rw rfl) (fun l hl => ?_)
        rw [gi_rw_n (by omega)]
        exact hl2 l hl
    have rd : ∀ h2, SmL h h2 → OK h2 ∧ gi h2 404 i = nI c ∧ gi h2 405 (140 * i + q) = nI a ∧ gi h2 406 (140 * i + q) = nI b ∧ gi h2 407 (140 * i + q) = nI e := fun h2 s2 =>
      ⟨s2.1, by rw [s2.2.2.2 _ _ rfl, k3], by rw [s2.2.2.2 _ _ rfl, f2], by rw [s2.2.2.2 _ _ rfl, f4], by rw [s2.2.2.2 _ _ rfl, f5]⟩
    have e80 : 140 * i + q < 700 := by omega
    have e5 : i < 5 := by omega
    have ecq : ¬ 140 * i + c ≤ 140 * i + q := by omega
    obtain ⟨ok', r1, r2, r3, r4⟩ := rd h' sm
    have ok := ok'
    rw [s193_6]
    simp (disch := omega) only [s193_0, s193_3, s193_4, s193_5, s193_7, s193_10, s193_11, s193_12, s193_13, s193_16, s193_17, s193_18, s193_19, s193_22, s193_23, s193_26, s193_27, s193_28, s193_29, s193_32, s193_33, s193_34, s193_37, s193_38, s193_39, s193_40, s193_43, s193_44, s193_45, s193_46, s193_49, s193_50, s193_51, s193_54, s193_57, s193_58, s193_59, s193_60, s193_63, s193_64, s193_65, s193_66, s193_69, s193_70, s193_71, s193_74, s193_75, s193_78, s193_81, s193_82, true_or, or_true, or_false, false_or, or_self, Int32.reduceLT, Int32.reduceLE, Nat.add_zero, Nat.zero_add, Nat.not_lt_zero, not_false_eq_true, not_true_eq_false, and_assoc, kl_q, kl_i, kl_r, kl_n, kl_0, kl_l, cs_0, cs_i, cs_r, cs_n, cs_l, aRf_s, aRf_n, gi_wl, gi_wr, gl_wi, gl_wl, gl_wr, gr_wi, gr_wl, gr_wr, sh_wi, sh_wl, sh_wr, gl_cp, gr_cp, sh_cp, gl_rw, gr_rw, sh_rw, gi_rl, gr_rl, sh_rl, Option.toList_some, Option.toList_none, List.nil_append, List.cons_append, List.append_nil, Option.some.injEq, Prod.mk.injEq, and_true, true_and, and_self, if_true, if_false, reduceCtorEq, Nat.reduceLeDiff, Nat.reduceLT, Nat.reduceAdd, Nat.reduceEqDiff, false_and, and_false, exists_const, exists_eq_left, exists_eq_left', exists_and_left, and_assoc, nltL, nltR, nleL, nleR, neqL, neqR, naL, naR, nmL, nmR, nI_ltI, nI_leI, nI_eq, nI_add, nI_mul, nI_clamp, n0l, n0r, nm1, nm1', nm1l, nm1r, nm1g, nsL, nI_m1, Nat.add_sub_cancel, vpn, vpL, nclL, le32, leLL, leLN, leNL, leNN, inA, nb0, nb1, gi_wi_n, gi_wi_e, gi_rw_n, gi_rw_e, aWi_rw, z399 ok, z404 ok, z405 ok, z406 ok, z407 ok, r399_9 ok, r399_10 ok, r399_11 ok, r399_12 ok, r1, r2, r3, r4, e80, ecq, e5]
    by_cases hab : a = b
    · rw [if_pos hab]
      rw [if_pos (Or.inl hab)] at hv
      refine run h' _ b e false be es f8 sm hl (fun h3 s3 hl3 => ?_)
      simp only [s193_0, s193_3, s193_4, s193_5, s193_7, s193_10, s193_11, s193_12, s193_13, s193_16, s193_17, s193_18, s193_19, s193_22, s193_23, s193_26, s193_27, s193_28, s193_29, s193_32, s193_33, s193_34, s193_37, s193_38, s193_39, s193_40, s193_43, s193_44, s193_45, s193_46, s193_49, s193_50, s193_51, s193_54, s193_57, s193_58, s193_59, s193_60, s193_63, s193_64, s193_65, s193_66, s193_69, s193_70, s193_71, s193_74, s193_75, s193_78, s193_81, s193_82, true_or, or_true, or_false, false_or, or_self, Int32.reduceLT, Int32.reduceLE, Nat.add_zero, Nat.zero_add, Nat.not_lt_zero, not_false_eq_true, not_true_eq_false, and_assoc, kl_q, kl_i, kl_r, kl_n, kl_0, kl_l, cs_0, cs_i, cs_r, cs_n, cs_l, aRf_s, aRf_n, gi_wl, gi_wr, gl_wi, gl_wl, gl_wr, gr_wi, gr_wl, gr_wr, sh_wi, sh_wl, sh_wr, gl_cp, gr_cp, sh_cp, gl_rw, gr_rw, sh_rw, gi_rl, gr_rl, sh_rl, Option.toList_some, Option.toList_none, List.nil_append, List.cons_append, List.append_nil, Option.some.injEq, Prod.mk.injEq, and_true, true_and, and_self, if_true, if_false, reduceCtorEq, Nat.reduceLeDiff, Nat.reduceLT, Nat.reduceAdd, Nat.reduceEqDiff, false_and, and_false, exists_const, exists_eq_left, exists_eq_left', exists_and_left, and_assoc]
      rw [← hv]
      exact hq _ s3
    · rw [if_neg hab]
      refine run h' _ a b true ab (by omega) (f7.resolve_left hab) sm hl (fun h3 s3 hl3 => ?_)
      obtain ⟨ok3, r1, r2, r3, r4⟩ := rd h3 s3
      have ok := ok3
      generalize hev : (evS lt (segC h i a) (segV h i a) (b - a)).headD 0 = ev at *
      by_cases he : ev = 0
      · simp (disch := omega) only [s193_0, s193_3, s193_4, s193_5, s193_7, s193_10, s193_11, s193_12, s193_13, s193_16, s193_17, s193_18, s193_19, s193_22, s193_23, s193_26, s193_27, s193_28, s193_29, s193_32, s193_33, s193_34, s193_37, s193_38, s193_39, s193_40, s193_43, s193_44, s193_45, s193_46, s193_49, s193_50, s193_51, s193_54, s193_57, s193_58, s193_59, s193_60, s193_63, s193_64, s193_65, s193_66, s193_69, s193_70, s193_71, s193_74, s193_75, s193_78, s193_81, s193_82, true_or, or_true, or_false, false_or, or_self, Int32.reduceLT, Int32.reduceLE, Nat.add_zero, Nat.zero_add, Nat.not_lt_zero, not_false_eq_true, not_true_eq_false, and_assoc, kl_q, kl_i, kl_r, kl_n, kl_0, kl_l, cs_0, cs_i, cs_r, cs_n, cs_l, aRf_s, aRf_n, gi_wl, gi_wr, gl_wi, gl_wl, gl_wr, gr_wi, gr_wl, gr_wr, sh_wi, sh_wl, sh_wr, gl_cp, gr_cp, sh_cp, gl_rw, gr_rw, sh_rw, gi_rl, gr_rl, sh_rl, Option.toList_some, Option.toList_none, List.nil_append, List.cons_append, List.append_nil, Option.some.injEq, Prod.mk.injEq, and_true, true_and, and_self, if_true, if_false, reduceCtorEq, Nat.reduceLeDiff, Nat.reduceLT, Nat.reduceAdd, Nat.reduceEqDiff, false_and, and_false, exists_const, exists_eq_left, exists_eq_left', exists_and_left, and_assoc, nltL, nltR, nleL, nleR, neqL, neqR, naL, naR, nmL, nmR, nI_ltI, nI_leI, nI_eq, nI_add, nI_mul, nI_clamp, n0l, n0r, nm1, nm1', nm1l, nm1r, nm1g, nsL, nI_m1, Nat.add_sub_cancel, vpn, vpL, nclL, le32, leLL, leLN, leNL, leNN, inA, nb0, nb1, gi_wi_n, gi_wi_e, gi_rw_n, gi_rw_e, aWi_rw, z399 ok, z404 ok, z405 ok, z406 ok, z407 ok, r399_9 ok, r399_10 ok, r399_11 ok, r399_12 ok, r1, r2, r3, r4, e80, e5, he]
        rw [if_neg (by rintro (h1 | h1); exact hab h1; exact h1 he)] at hv
        exact hk _ _ ⟨rfl, s3, hl3, hv⟩
      · simp (disch := omega) only [s193_0, s193_3, s193_4, s193_5, s193_7, s193_10, s193_11, s193_12, s193_13, s193_16, s193_17, s193_18, s193_19, s193_22, s193_23, s193_26, s193_27, s193_28, s193_29, s193_32, s193_33, s193_34, s193_37, s193_38, s193_39, s193_40, s193_43, s193_44, s193_45, s193_46, s193_49, s193_50, s193_51, s193_54, s193_57, s193_58, s193_59, s193_60, s193_63, s193_64, s193_65, s193_66, s193_69, s193_70, s193_71, s193_74, s193_75, s193_78, s193_81, s193_82, true_or, or_true, or_false, false_or, or_self, Int32.reduceLT, Int32.reduceLE, Nat.add_zero, Nat.zero_add, Nat.not_lt_zero, not_false_eq_true, not_true_eq_false, and_assoc, kl_q, kl_i, kl_r, kl_n, kl_0, kl_l, cs_0, cs_i, cs_r, cs_n, cs_l, aRf_s, aRf_n, gi_wl, gi_wr, gl_wi, gl_wl, gl_wr, gr_wi, gr_wl, gr_wr, sh_wi, sh_wl, sh_wr, gl_cp, gr_cp, sh_cp, gl_rw, gr_rw, sh_rw, gi_rl, gr_rl, sh_rl, Option.toList_some, Option.toList_none, List.nil_append, List.cons_append, List.append_nil, Option.some.injEq, Prod.mk.injEq, and_true, true_and, and_self, if_true, if_false, reduceCtorEq, Nat.reduceLeDiff, Nat.reduceLT, Nat.reduceAdd, Nat.reduceEqDiff, false_and, and_false, exists_const, exists_eq_left, exists_eq_left', exists_and_left, and_assoc, nltL, nltR, nleL, nleR, neqL, neqR, naL, naR, nmL, nmR, nI_ltI, nI_leI, nI_eq, nI_add, nI_mul, nI_clamp, n0l, n0r, nm1, nm1', nm1l, nm1r, nm1g, nsL, nI_m1, Nat.add_sub_cancel, vpn, vpL, nclL, le32, leLL, leLN, leNL, leNN, inA, nb0, nb1, gi_wi_n, gi_wi_e, gi_rw_n, gi_rw_e, aWi_rw, z399 ok, z404 ok, z405 ok, z406 ok, z407 ok, r399_9 ok, r399_10 ok, r399_11 ok, r399_12 ok, r1, r2, r3, r4, e80, e5, he]
        rw [if_pos (Or.inr he)] at hv
        refine run h3 _ b e false be es f8 s3 hl3 (fun h4 s4 hl4 => ?_)
        simp only [s193_0, s193_3, s193_4, s193_5, s193_7, s193_10, s193_11, s193_12, s193_13, s193_16, s193_17, s193_18, s193_19, s193_22, s193_23, s193_26, s193_27, s193_28, s193_29, s193_32, s193_33, s193_34, s193_37, s193_38, s193_39, s193_40, s193_43, s193_44, s193_45, s193_46, s193_49, s193_50, s193_51, s193_54, s193_57, s193_58, s193_59, s193_60, s193_63, s193_64, s193_65, s193_66, s193_69, s193_70, s193_71, s193_74, s193_75, s193_78, s193_81, s193_82, true_or, or_true, or_false, false_or, or_self, Int32.reduceLT, Int32.reduceLE, Nat.add_zero, Nat.zero_add, Nat.not_lt_zero, not_false_eq_true, not_true_eq_false, and_assoc, kl_q, kl_i, kl_r, kl_n, kl_0, kl_l, cs_0, cs_i, cs_r, cs_n, cs_l, aRf_s, aRf_n, gi_wl, gi_wr, gl_wi, gl_wl, gl_wr, gr_wi, gr_wl, gr_wr, sh_wi, sh_wl, sh_wr, gl_cp, gr_cp, sh_cp, gl_rw, gr_rw, sh_rw, gi_rl, gr_rl, sh_rl, Option.toList_some, Option.toList_none, List.nil_append, List.cons_append, List.append_nil, Option.some.injEq, Prod.mk.injEq, and_true, true_and, and_self, if_true, if_false, reduceCtorEq, Nat.reduceLeDiff, Nat.reduceLT, Nat.reduceAdd, Nat.reduceEqDiff, false_and, and_false, exists_const, exists_eq_left, exists_eq_left', exists_and_left, and_assoc]
        rw [← hv]
        exact hq _ s4
  · rintro lv h' ⟨rfl, sm, hl, hv⟩
    have ok := sm.1
    have r3 := sm.2.2.2 404 i rfl
    rw [k3] at r3
    have e5 : i < 5 := by omega
    rw [s193_6]
    simp (disch := omega) only [s193_0, s193_3, s193_4, s193_5, s193_7, s193_10, s193_11, s193_12, s193_13, s193_16, s193_17, s193_18, s193_19, s193_22, s193_23, s193_26, s193_27, s193_28, s193_29, s193_32, s193_33, s193_34, s193_37, s193_38, s193_39, s193_40, s193_43, s193_44, s193_45, s193_46, s193_49, s193_50, s193_51, s193_54, s193_57, s193_58, s193_59, s193_60, s193_63, s193_64, s193_65, s193_66, s193_69, s193_70, s193_71, s193_74, s193_75, s193_78, s193_81, s193_82, true_or, or_true, or_false, false_or, or_self, Int32.reduceLT, Int32.reduceLE, Nat.add_zero, Nat.zero_add, Nat.not_lt_zero, not_false_eq_true, not_true_eq_false, and_assoc, kl_q, kl_i, kl_r, kl_n, kl_0, kl_l, cs_0, cs_i, cs_r, cs_n, cs_l, aRf_s, aRf_n, gi_wl, gi_wr, gl_wi, gl_wl, gl_wr, gr_wi, gr_wl, gr_wr, sh_wi, sh_wl, sh_wr, gl_cp, gr_cp, sh_cp, gl_rw, gr_rw, sh_rw, gi_rl, gr_rl, sh_rl, Option.toList_some, Option.toList_none, List.nil_append, List.cons_append, List.append_nil, Option.some.injEq, Prod.mk.injEq, and_true, true_and, and_self, if_true, if_false, reduceCtorEq, Nat.reduceLeDiff, Nat.reduceLT, Nat.reduceAdd, Nat.reduceEqDiff, false_and, and_false, exists_const, exists_eq_left, exists_eq_left', exists_and_left, and_assoc, nltL, nltR, nleL, nleR, neqL, neqR, naL, naR, nmL, nmR, nI_ltI, nI_leI, nI_eq, nI_add, nI_mul, nI_clamp, n0l, n0r, nm1, nm1', nm1l, nm1r, nm1g, nsL, nI_m1, Nat.add_sub_cancel, vpn, vpL, nclL, le32, leLL, leLN, leNL, leNN, inA, nb0, nb1, gi_wi_n, gi_wi_e, gi_rw_n, gi_rw_e, aWi_rw, z399 ok, z404 ok, r399_9 ok, r3, e5, Nat.le_refl]
    rw [Nat.sub_self] at hv
    rw [show (0 : Int32) = wfL h i lt from hv.symm]
    exact hq _ sm
  · unfold wfL cN
    rw [k3, nI_clamp (by omega)]
    rfl
