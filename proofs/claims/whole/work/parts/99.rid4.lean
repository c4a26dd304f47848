-- deps: 98.rid3
def PostE (B : Nat → Nat) (T : Nat) (Q : Option Value → aM → Prop) (r : Nat ⊕ RS) (h : aM) : Prop := match r with
  | .inl q => Q (some (.int (nI q))) h
  | .inr s => (∃ p, RcC h B T p s) → RsOk s → whP s → Q (some (.int (-1))) h
section D4
variable {B : Nat → Nat} {T : Nat} {d : Nat} {Q : Option Value → aM → Prop} {r : Nat ⊕ RS}
theorem c_rideGo : ∀ (f p k : Nat) (s : RS) (h : aM), rdG B T f p s = some r → p ≤ T → k ≤ p → RsOk s → RcC h B T p s → (∀ h', Ag RX h h' → PostE B T Q r h') → AW (d + 8) 54 43 [some (.ref 35), some (.int (nI k))] [] h Q := by
  intro f
  induction f with
  | zero =>
    intro p k s h hr
    unfold rdG at hr
    cases hr
  | succ f ih =>
    intro p k s h hr hp hk so rc hq
    unfold rdG at hr
    have hT := rc.1.2.1
    have hbb := rc.1.2.2.2.2
    have ok := rc.1.1
    have nk : ¬ 240 < k := by omega
    cases e : rcG B T p s with
    | none =>
      rw [e] at hr
      cases hr
    | some r0 =>
      rw [e] at hr
      rw [s54_43]
      simp (disch := omega) only [s54_44, s54_47, s54_50, s54_51, true_or, or_true, or_false, false_or, or_self, Int32.reduceLT, Int32.reduceLE, Nat.add_zero, Nat.zero_add, Nat.not_lt_zero, not_false_eq_true, not_true_eq_false, and_assoc, kl_q, kl_i, kl_r, kl_n, kl_0, kl_l, cs_0, cs_i, cs_r, cs_n, cs_l, aRf_s, aRf_n, gi_wl, gi_wr, gl_wi, gl_wl, gl_wr, gr_wi, gr_wl, gr_wr, sh_wi, sh_wl, sh_wr, gl_cp, gr_cp, sh_cp, gl_rw, gr_rw, sh_rw, gi_rl, gr_rl, sh_rl, Option.toList_some, Option.toList_none, List.nil_append, List.cons_append, List.append_nil, Option.some.injEq, Prod.mk.injEq, and_true, true_and, and_self, if_true, if_false, reduceCtorEq, Nat.reduceLeDiff, Nat.reduceLT, Nat.reduceAdd, Nat.reduceEqDiff, false_and, and_false, exists_const, exists_eq_left, exists_eq_left', exists_and_left, and_assoc, nltL, nltR, nleL, nleR, neqL, neqR, naL, naR, nmL, nmR, nI_ltI, nI_leI, nI_eq, nI_add, nI_mul, nI_clamp, n0l, n0r, nm1, nm1', nm1l, nm1r, nm1g, nsL, nI_m1, Nat.add_sub_cancel, vpn, vpL, nclL, le32, leLL, leLN, leNL, leNN, inA, nb0, nb1, gi_wi_n, gi_wi_e, gi_rw_n, gi_rw_e, aWi_rw, ifl, ifl_, ifle, ifle_, ifq, ifq_, ifnq, ifnq_, ifnl, ifnl_, ifnle, ifnle_, z35 ok, nk]
      refine c_rclause so e hp rc (fun h1 a1 => ?_)
      cases r0 with
      | inl q =>
        cases hr
        intro f1
        have ok := a1.1
        simp (disch := omega) only [s54_51, s54_54, s54_57, s54_58, s54_61, s54_64, s76_0, s76_1, s76_4, true_or, or_true, or_false, false_or, or_self, Int32.reduceLT, Int32.reduceLE, Nat.add_zero, Nat.zero_add, Nat.not_lt_zero, not_false_eq_true, not_true_eq_false, and_assoc, kl_q, kl_i, kl_r, kl_n, kl_0, kl_l, cs_0, cs_i, cs_r, cs_n, cs_l, aRf_s, aRf_n, gi_wl, gi_wr, gl_wi, gl_wl, gl_wr, gr_wi, gr_wl, gr_wr, sh_wi, sh_wl, sh_wr, gl_cp, gr_cp, sh_cp, gl_rw, gr_rw, sh_rw, gi_rl, gr_rl, sh_rl, Option.toList_some, Option.toList_none, List.nil_append, List.cons_append, List.append_nil, Option.some.injEq, Prod.mk.injEq, and_true, true_and, and_self, if_true, if_false, reduceCtorEq, Nat.reduceLeDiff, Nat.reduceLT, Nat.reduceAdd, Nat.reduceEqDiff, false_and, and_false, exists_const, exists_eq_left, exists_eq_left', exists_and_left, and_assoc, nltL, nltR, nleL, nleR, neqL, neqR, naL, naR, nmL, nmR, nI_ltI, nI_leI, nI_eq, nI_add, nI_mul, nI_clamp, n0l, n0r, nm1, nm1', nm1l, nm1r, nm1g, nsL, nI_m1, Nat.add_sub_cancel, vpn, vpL, nclL, le32, leLL, leLN, leNL, leNN, inA, nb0, nb1, gi_wi_n, gi_wi_e, gi_rw_n, gi_rw_e, aWi_rw, ifl, ifl_, ifle, ifle_, ifq, ifq_, ifnq, ifnq_, ifnl, ifnl_, ifnle, ifnle_, z35 ok, z33 ok, r35_1 ok, f1]
        exact hq h1 a1
      | inr x =>
        obtain ⟨p1, s1⟩ := x
        simp only at hr
        obtain ⟨so1, c1, c2⟩ := rcG_ok so e hp
        have hs := sk_le (B := B) c2
        have ss := sk_sk (B := B) c2
        intro rc1
        have ok := rc1.1.1
        simp (disch := omega) only [s54_51, s54_54, s54_57, s54_58, s54_61, s54_64, s54_65, s54_66, s54_69, true_or, or_true, or_false, false_or, or_self, Int32.reduceLT, Int32.reduceLE, Nat.add_zero, Nat.zero_add, Nat.not_lt_zero, not_false_eq_true, not_true_eq_false, and_assoc, kl_q, kl_i, kl_r, kl_n, kl_0, kl_l, cs_0, cs_i, cs_r, cs_n, cs_l, aRf_s, aRf_n, gi_wl, gi_wr, gl_wi, gl_wl, gl_wr, gr_wi, gr_wl, gr_wr, sh_wi, sh_wl, sh_wr, gl_cp, gr_cp, sh_cp, gl_rw, gr_rw, sh_rw, gi_rl, gr_rl, sh_rl, Option.toList_some, Option.toList_none, List.nil_append, List.cons_append, List.append_nil, Option.some.injEq, Prod.mk.injEq, and_true, true_and, and_self, if_true, if_false, reduceCtorEq, Nat.reduceLeDiff, Nat.reduceLT, Nat.reduceAdd, Nat.reduceEqDiff, false_and, and_false, exists_const, exists_eq_left, exists_eq_left', exists_and_left, and_assoc, nltL, nltR, nleL, nleR, neqL, neqR, naL, naR, nmL, nmR, nI_ltI, nI_leI, nI_eq, nI_add, nI_mul, nI_clamp, n0l, n0r, nm1, nm1', nm1l, nm1r, nm1g, nsL, nI_m1, Nat.add_sub_cancel, vpn, vpL, nclL, le32, leLL, leLN, leNL, leNN, inA, nb0, nb1, gi_wi_n, gi_wi_e, gi_rw_n, gi_rw_e, aWi_rw, ifl, ifl_, ifle, ifle_, ifq, ifq_, ifnq, ifnq_, ifnl, ifnl_, ifnle, ifnle_, z35 ok, z33 ok, r35_1 ok]
        refine c_look rc1.1 c2 rc1.2.2.1 (fun h2 a2 f2 f3 => ?_)
        have rc2 := rc1.at so1 a2 f2
        have b2 : Ag RX h h2 := a1.trans (a2.mono (fun a k z => at_rx z))
        have ok := rc2.1.1
        by_cases ht : T ≤ sk B T p1
        · rw [if_pos ht] at hr
          have e1 : lkI B T (sk B T p1) = -1 := if_neg (by omega)
          simp (disch := omega) only [s54_72, s54_73, s54_76, s54_77, s54_80, true_or, or_true, or_false, false_or, or_self, Int32.reduceLT, Int32.reduceLE, Nat.add_zero, Nat.zero_add, Nat.not_lt_zero, not_false_eq_true, not_true_eq_false, and_assoc, kl_q, kl_i, kl_r, kl_n, kl_0, kl_l, cs_0, cs_i, cs_r, cs_n, cs_l, aRf_s, aRf_n, gi_wl, gi_wr, gl_wi, gl_wl, gl_wr, gr_wi, gr_wl, gr_wr, sh_wi, sh_wl, sh_wr, gl_cp, gr_cp, sh_cp, gl_rw, gr_rw, sh_rw, gi_rl, gr_rl, sh_rl, Option.toList_some, Option.toList_none, List.nil_append, List.cons_append, List.append_nil, Option.some.injEq, Prod.mk.injEq, and_true, true_and, and_self, if_true, if_false, reduceCtorEq, Nat.reduceLeDiff, Nat.reduceLT, Nat.reduceAdd, Nat.reduceEqDiff, false_and, and_false, exists_const, exists_eq_left, exists_eq_left', exists_and_left, and_assoc, nltL, nltR, nleL, nleR, neqL, neqR, naL, naR, nmL, nmR, nI_ltI, nI_leI, nI_eq, nI_add, nI_mul, nI_clamp, n0l, n0r, nm1, nm1', nm1l, nm1r, nm1g, nsL, nI_m1, Nat.add_sub_cancel, vpn, vpL, nclL, le32, leLL, leLN, leNL, leNN, inA, nb0, nb1, gi_wi_n, gi_wi_e, gi_rw_n, gi_rw_e, aWi_rw, ifl, ifl_, ifle, ifle_, ifq, ifq_, ifnq, ifnq_, ifnl, ifnl_, ifnle, ifnle_, z35 ok, z36 ok, r35_0 ok, e1]
          refine c_isWhole rc2 so1 (fun hw => ?_) (fun hw => ?_)
          · rw [enG_t hw] at hr
            cases hr
            simp (disch := omega) only [s54_80, s54_83, s54_86, s54_87, s54_90, s54_91, s54_94, s54_97, true_or, or_true, or_false, false_or, or_self, Int32.reduceLT, Int32.reduceLE, Nat.add_zero, Nat.zero_add, Nat.not_lt_zero, not_false_eq_true, not_true_eq_false, and_assoc, kl_q, kl_i, kl_r, kl_n, kl_0, kl_l, cs_0, cs_i, cs_r, cs_n, cs_l, aRf_s, aRf_n, gi_wl, gi_wr, gl_wi, gl_wl, gl_wr, gr_wi, gr_wl, gr_wr, sh_wi, sh_wl, sh_wr, gl_cp, gr_cp, sh_cp, gl_rw, gr_rw, sh_rw, gi_rl, gr_rl, sh_rl, Option.toList_some, Option.toList_none, List.nil_append, List.cons_append, List.append_nil, Option.some.injEq, Prod.mk.injEq, and_true, true_and, and_self, if_true, if_false, reduceCtorEq, Nat.reduceLeDiff, Nat.reduceLT, Nat.reduceAdd, Nat.reduceEqDiff, false_and, and_false, exists_const, exists_eq_left, exists_eq_left', exists_and_left, and_assoc, nltL, nltR, nleL, nleR, neqL, neqR, naL, naR, nmL, nmR, nI_ltI, nI_leI, nI_eq, nI_add, nI_mul, nI_clamp, n0l, n0r, nm1, nm1', nm1l, nm1r, nm1g, nsL, nI_m1, Nat.add_sub_cancel, vpn, vpL, nclL, le32, leLL, leLN, leNL, leNN, inA, nb0, nb1, gi_wi_n, gi_wi_e, gi_rw_n, gi_rw_e, aWi_rw, ifl, ifl_, ifle, ifle_, ifq, ifq_, ifnq, ifnq_, ifnl, ifnl_, ifnle, ifnle_]
            exact hq h2 b2 ⟨_, rc2⟩ so1 hw
          · rw [enG_f hw] at hr
            cases hr
            simp (disch := omega) only [s54_80, s54_83, s54_86, s54_87, s54_90, s54_91, s54_94, s54_97, s72_0, s72_1, s72_4, true_or, or_true, or_false, false_or, or_self, Int32.reduceLT, Int32.reduceLE, Nat.add_zero, Nat.zero_add, Nat.not_lt_zero, not_false_eq_true, not_true_eq_false, and_assoc, kl_q, kl_i, kl_r, kl_n, kl_0, kl_l, cs_0, cs_i, cs_r, cs_n, cs_l, aRf_s, aRf_n, gi_wl, gi_wr, gl_wi, gl_wl, gl_wr, gr_wi, gr_wl, gr_wr, sh_wi, sh_wl, sh_wr, gl_cp, gr_cp, sh_cp, gl_rw, gr_rw, sh_rw, gi_rl, gr_rl, sh_rl, Option.toList_some, Option.toList_none, List.nil_append, List.cons_append, List.append_nil, Option.some.injEq, Prod.mk.injEq, and_true, true_and, and_self, if_true, if_false, reduceCtorEq, Nat.reduceLeDiff, Nat.reduceLT, Nat.reduceAdd, Nat.reduceEqDiff, false_and, and_false, exists_const, exists_eq_left, exists_eq_left', exists_and_left, and_assoc, nltL, nltR, nleL, nleR, neqL, neqR, naL, naR, nmL, nmR, nI_ltI, nI_leI, nI_eq, nI_add, nI_mul, nI_clamp, n0l, n0r, nm1, nm1', nm1l, nm1r, nm1g, nsL, nI_m1, Nat.add_sub_cancel, vpn, vpL, nclL, le32, leLL, leLN, leNL, leNN, inA, nb0, nb1, gi_wi_n, gi_wi_e, gi_rw_n, gi_rw_e, aWi_rw, ifl, ifl_, ifle, ifle_, ifq, ifq_, ifnq, ifnq_, ifnl, ifnl_, ifnle, ifnle_, z35 ok, z33 ok, r35_1 ok, rc2.1.2.2.1]
            exact hq h2 b2
        · rw [if_neg ht] at hr
          have e1 : lkI B T (sk B T p1) = nI (B (sk B T p1)) := if_pos (by omega)
          have b256 := hbb (sk B T p1) (by omega)
          have e2 : ¬ lkI B T (sk B T p1) = -1 := by
            rw [e1]
            exact fun z => (nm1 (by omega)).mp z
          simp (disch := omega) only [s54_72, s54_73, s54_76, s54_77, s54_80, s54_83, s54_86, s54_87, s54_90, s54_91, s54_94, s54_97, s54_98, s54_99, s54_102, s54_104, true_or, or_true, or_false, false_or, or_self, Int32.reduceLT, Int32.reduceLE, Nat.add_zero, Nat.zero_add, Nat.not_lt_zero, not_false_eq_true, not_true_eq_false, and_assoc, kl_q, kl_i, kl_r, kl_n, kl_0, kl_l, cs_0, cs_i, cs_r, cs_n, cs_l, aRf_s, aRf_n, gi_wl, gi_wr, gl_wi, gl_wl, gl_wr, gr_wi, gr_wl, gr_wr, sh_wi, sh_wl, sh_wr, gl_cp, gr_cp, sh_cp, gl_rw, gr_rw, sh_rw, gi_rl, gr_rl, sh_rl, Option.toList_some, Option.toList_none, List.nil_append, List.cons_append, List.append_nil, Option.some.injEq, Prod.mk.injEq, and_true, true_and, and_self, if_true, if_false, reduceCtorEq, Nat.reduceLeDiff, Nat.reduceLT, Nat.reduceAdd, Nat.reduceEqDiff, false_and, and_false, exists_const, exists_eq_left, exists_eq_left', exists_and_left, and_assoc, nltL, nltR, nleL, nleR, neqL, neqR, naL, naR, nmL, nmR, nI_ltI, nI_leI, nI_eq, nI_add, nI_mul, nI_clamp, n0l, n0r, nm1, nm1', nm1l, nm1r, nm1g, nsL, nI_m1, Nat.add_sub_cancel, vpn, vpL, nclL, le32, leLL, leLN, leNL, leNN, inA, nb0, nb1, gi_wi_n, gi_wi_e, gi_rw_n, gi_rw_e, aWi_rw, ifl, ifl_, ifle, ifle_, ifq, ifq_, ifnq, ifnq_, ifnl, ifnl_, ifnle, ifnle_, z35 ok, z33 ok, r35_1 ok, e2]
          refine c_take (b := 59) rc2.1 hs.2 f2 (by omega) (fun hb h3 a3 g1 g2 => ?_) (fun hb h3 a3 g1 => ?_)
          · rw [ss] at hb g1
            rw [if_pos ((lk_sg hbb (by omega) (by omega)).mp hb)] at hr
            have rc3 := rc2.at so1 a3 g1
            simp (disch := omega) only [s54_104, s54_107, s54_110, s54_111, s54_114, s54_117, s54_118, s54_121, true_or, or_true, or_false, false_or, or_self, Int32.reduceLT, Int32.reduceLE, Nat.add_zero, Nat.zero_add, Nat.not_lt_zero, not_false_eq_true, not_true_eq_false, and_assoc, kl_q, kl_i, kl_r, kl_n, kl_0, kl_l, cs_0, cs_i, cs_r, cs_n, cs_l, aRf_s, aRf_n, gi_wl, gi_wr, gl_wi, gl_wl, gl_wr, gr_wi, gr_wl, gr_wr, sh_wi, sh_wl, sh_wr, gl_cp, gr_cp, sh_cp, gl_rw, gr_rw, sh_rw, gi_rl, gr_rl, sh_rl, Option.toList_some, Option.toList_none, List.nil_append, List.cons_append, List.append_nil, Option.some.injEq, Prod.mk.injEq, and_true, true_and, and_self, if_true, if_false, reduceCtorEq, Nat.reduceLeDiff, Nat.reduceLT, Nat.reduceAdd, Nat.reduceEqDiff, false_and, and_false, exists_const, exists_eq_left, exists_eq_left', exists_and_left, and_assoc, nltL, nltR, nleL, nleR, neqL, neqR, naL, naR, nmL, nmR, nI_ltI, nI_leI, nI_eq, nI_add, nI_mul, nI_clamp, n0l, n0r, nm1, nm1', nm1l, nm1r, nm1g, nsL, nI_m1, Nat.add_sub_cancel, vpn, vpL, nclL, le32, leLL, leLN, leNL, leNN, inA, nb0, nb1, gi_wi_n, gi_wi_e, gi_rw_n, gi_rw_e, aWi_rw, ifl, ifl_, ifle, ifle_, ifq, ifq_, ifnq, ifnq_, ifnl, ifnl_, ifnle, ifnle_]
            exact ih (sk B T p1 + 1) (k + 1) _ h3 hr (by omega) (by omega) so1 rc3 (fun h4 a4 => hq h4 ((b2.trans (a3.mono (fun a k z => at_rx z))).trans a4))
          · rw [ss] at hb g1
            rw [if_neg (fun q => hb ((lk_sg hbb (by omega) (by omega)).mpr q))] at hr
            cases hr
            have ok := a3.1
            simp (disch := omega) only [s54_104, s54_107, s54_110, s54_111, s54_114, s54_117, s76_0, s76_1, s76_4, true_or, or_true, or_false, false_or, or_self, Int32.reduceLT, Int32.reduceLE, Nat.add_zero, Nat.zero_add, Nat.not_lt_zero, not_false_eq_true, not_true_eq_false, and_assoc, kl_q, kl_i, kl_r, kl_n, kl_0, kl_l, cs_0, cs_i, cs_r, cs_n, cs_l, aRf_s, aRf_n, gi_wl, gi_wr, gl_wi, gl_wl, gl_wr, gr_wi, gr_wl, gr_wr, sh_wi, sh_wl, sh_wr, gl_cp, gr_cp, sh_cp, gl_rw, gr_rw, sh_rw, gi_rl, gr_rl, sh_rl, Option.toList_some, Option.toList_none, List.nil_append, List.cons_append, List.append_nil, Option.some.injEq, Prod.mk.injEq, and_true, true_and, and_self, if_true, if_false, reduceCtorEq, Nat.reduceLeDiff, Nat.reduceLT, Nat.reduceAdd, Nat.reduceEqDiff, false_and, and_false, exists_const, exists_eq_left, exists_eq_left', exists_and_left, and_assoc, nltL, nltR, nleL, nleR, neqL, neqR, naL, naR, nmL, nmR, nI_ltI, nI_leI, nI_eq, nI_add, nI_mul, nI_clamp, n0l, n0r, nm1, nm1', nm1l, nm1r, nm1g, nsL, nI_m1, Nat.add_sub_cancel, vpn, vpL, nclL, le32, leLL, leLN, leNL, leNN, inA, nb0, nb1, gi_wi_n, gi_wi_e, gi_rw_n, gi_rw_e, aWi_rw, ifl, ifl_, ifle, ifle_, ifq, ifq_, ifnq, ifnq_, ifnl, ifnl_, ifnle, ifnle_, z35 ok, z33 ok, r35_1 ok, g1]
            exact hq h3 (b2.trans (a3.mono (fun a k z => at_rx z)))
theorem c_readRide {f : Nat} {h : aM} (tc : TpC h B T) (ic : ICon h) (hr : rdG B T f 0 (false, usK 0, [], []) = some r) (hq : ∀ h', Ag RX h h' → PostE B T Q r h') : AW (d + 8) 54 0 [some (.ref 35), none] [] h Q := by
  have ok := tc.1
  simp (disch := omega) only [s54_0, s54_1, s54_4, s54_7, s54_8, s54_9, s54_12, s54_13, s54_16, s54_17, s54_20, s54_21, s54_24, s54_25, s54_28, s54_31, s54_32, s54_35, s54_38, s75_0, s75_1, s75_2, s75_5, s75_6, s75_7, s75_10, true_or, or_true, or_false, false_or, or_self, Int32.reduceLT, Int32.reduceLE, Nat.add_zero, Nat.zero_add, Nat.not_lt_zero, not_false_eq_true, not_true_eq_false, and_assoc, kl_q, kl_i, kl_r, kl_n, kl_0, kl_l, cs_0, cs_i, cs_r, cs_n, cs_l, aRf_s, aRf_n, gi_wl, gi_wr, gl_wi, gl_wl, gl_wr, gr_wi, gr_wl, gr_wr, sh_wi, sh_wl, sh_wr, gl_cp, gr_cp, sh_cp, gl_rw, gr_rw, sh_rw, gi_rl, gr_rl, sh_rl, Option.toList_some, Option.toList_none, List.nil_append, List.cons_append, List.append_nil, Option.some.injEq, Prod.mk.injEq, and_true, true_and, and_self, if_true, if_false, reduceCtorEq, Nat.reduceLeDiff, Nat.reduceLT, Nat.reduceAdd, Nat.reduceEqDiff, false_and, and_false, exists_const, exists_eq_left, exists_eq_left', exists_and_left, and_assoc, nltL, nltR, nleL, nleR, neqL, neqR, naL, naR, nmL, nmR, nI_ltI, nI_leI, nI_eq, nI_add, nI_mul, nI_clamp, n0l, n0r, nm1, nm1', nm1l, nm1r, nm1g, nsL, nI_m1, Nat.add_sub_cancel, vpn, vpL, nclL, le32, leLL, leLN, leNL, leNN, inA, nb0, nb1, gi_wi_n, gi_wi_e, gi_rw_n, gi_rw_e, aWi_rw, ifl, ifl_, ifle, ifle_, ifq, ifq_, ifnq, ifnq_, ifnl, ifnl_, ifnle, ifnle_, z35 ok, z33 ok, z36 ok, r35_0 ok, r35_1 ok, r36_0 ok]
  obtain ⟨h1, eh1⟩ : ∃ h1, h1 = aWi (aWi (aWi (aWi (aWi h 33 2 0) 33 3 (-1)) 35 2 0) 36 3 0) 36 4 0 := ⟨_, rfl⟩
  rw [← eh1]
  have a1 : Ag RX h h1 := by
    rw [eh1]
    exact (((((Ag.refl ok).wi (by unfold RX AtZ; omega)).wi (by unfold RX AtZ; omega)).wi (by unfold RX AtZ; omega)).wi (by unfold RX AtZ; omega)).wi (by unfold RX AtZ; omega)
  have ok := a1.1
  rw [sp_row (n := 5) (z1 ok) (z37 ok) (by omega) (by decide), aCp_rw]
  obtain ⟨h2, eh2⟩ : ∃ h2, h2 = aRw h1 37 (fun j => if j < 5 then gi h1 1 j else gi h1 37 j) := ⟨_, rfl⟩
  rw [← eh2]
  have a2 : Ag RX h h2 := by
    rw [eh2]
    exact a1.rw (fun k => by unfold RX; omega)
  have t2 : ∀ a k, ¬ a = 37 → gi h2 a k = gi h1 a k := fun a k z => by rw [eh2, gi_rw_n z]
  simp (disch := omega) only [s54_38, s54_41, s54_42, true_or, or_true, or_false, false_or, or_self, Int32.reduceLT, Int32.reduceLE, Nat.add_zero, Nat.zero_add, Nat.not_lt_zero, not_false_eq_true, not_true_eq_false, and_assoc, kl_q, kl_i, kl_r, kl_n, kl_0, kl_l, cs_0, cs_i, cs_r, cs_n, cs_l, aRf_s, aRf_n, gi_wl, gi_wr, gl_wi, gl_wl, gl_wr, gr_wi, gr_wl, gr_wr, sh_wi, sh_wl, sh_wr, gl_cp, gr_cp, sh_cp, gl_rw, gr_rw, sh_rw, gi_rl, gr_rl, sh_rl, Option.toList_some, Option.toList_none, List.nil_append, List.cons_append, List.append_nil, Option.some.injEq, Prod.mk.injEq, and_true, true_and, and_self, if_true, if_false, reduceCtorEq, Nat.reduceLeDiff, Nat.reduceLT, Nat.reduceAdd, Nat.reduceEqDiff, false_and, and_false, exists_const, exists_eq_left, exists_eq_left', exists_and_left, and_assoc, nltL, nltR, nleL, nleR, neqL, neqR, naL, naR, nmL, nmR, nI_ltI, nI_leI, nI_eq, nI_add, nI_mul, nI_clamp, n0l, n0r, nm1, nm1', nm1l, nm1r, nm1g, nsL, nI_m1, Nat.add_sub_cancel, vpn, vpL, nclL, le32, leLL, leLN, leNL, leNN, inA, nb0, nb1, gi_wi_n, gi_wi_e, gi_rw_n, gi_rw_e, aWi_rw, ifl, ifl_, ifle, ifle_, ifq, ifq_, ifnq, ifnq_, ifnl, ifnl_, ifnle, ifnle_]
  refine c_rideGo f 0 0 _ h2 hr (Nat.zero_le _) (Nat.le_refl _) rs0 ⟨tc.ag a2 (by unfold RX AtZ; omega) (by unfold RX AtZ; omega), fun x j q1 q2 => ?_, ?_, ?_, ?_, ?_, fun k hk => ?_, fun i hi => absurd hi (Nat.not_lt_zero _), fun i hi => absurd hi (Nat.not_lt_zero _)⟩ (fun h3 a3 => hq h3 (a2.trans a3))
  · rw [a2.2 _ _ (by unfold RX AtZ; omega)]
    exact ic x j q1 q2
  · rw [t2 _ _ (by omega), eh1, gi_wi_n (by omega), gi_wi_n (by omega), gi_wi_n (by omega), gi_wi_n (by omega), gi_wi_e]
    rfl
  · rw [t2 _ _ (by omega), eh1, gi_wi_n (by omega), gi_wi_n (by omega), gi_wi_e]
    rfl
  · rw [t2 _ _ (by omega), eh1, gi_wi_n (by omega), gi_wi_e]
    rfl
  · rw [t2 _ _ (by omega), eh1, gi_wi_e]
    rfl
  · rw [eh2, gi_rw_e, if_pos hk, a1.2 _ _ (by unfold RX AtZ; omega), ic _ _ (by omega) (by omega)]
    exact (cnK 0 (by omega) k hk).1
end D4
