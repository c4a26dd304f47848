-- deps: 89.lawr
/-! ===== laws as texts: class and reference read the same law ===== -/
def PostL (B : Nat → Nat) (T : Nat) (Q : Option Value → aM → Prop) (r : LR) (h : aM) : Prop := match r with
  | .inl q => Q (some (.int (nI q))) h
  | .inr (ts, cs) => (∃ p, RdC h B T p ts) → ClC h cs → Q (some (.int (-1))) h
def PostN (B : Nat → Nat) (T sl : Nat) (Q : Option Value → aM → Prop) (r : LR) (h : aM) : Prop := match r with
  | .inl q => Q (some (.int (nI q))) h
  | .inr (ts, cs) => (∃ p, RdM h B T p ts sl 0) → ClM h sl cs → Q (some (.int (-1))) h
section R1
variable {d : Nat} {Q : Option Value → aM → Prop} {B : Nat → Nat} {T n sl : Nat} {r : LR}
theorem nwC_len (ts t1 t2 : List Tk) (cs : List Cl) : (nwC ts t1 t2 cs).length = cs.length + 1 := by
  unfold nwC
  rw [List.length_append]
  rfl
theorem c_lawGo : ∀ (f p : Nat) (ts : List Tk) (cs : List Cl) (h : aM), lwG B T n f p ts cs = some r → p ≤ T → ts.length ≤ p → 4 * cs.length ≤ p → RdC h B T p ts → ClC h cs → (∀ h', Ag LY h h' → PostL B T Q r h') → AW (d + 12 * (7 - 0) + 17) 40 16 [some (.ref 51), some (.int (nI cs.length))] [] h Q := by
  intro f
  induction f with
  | zero =>
    intro p ts cs h hr
    unfold lwG at hr
    cases hr
  | succ f ih =>
    intro p ts cs h hr hp hl hc rc cc hq
    unfold lwG at hr
    have hT := rc.1.2.1
    have hbb := rc.1.2.2.2.2
    have ok := rc.ok
    have nk : ¬ 240 < cs.length := by omega
    cases e : clG B T n p with
    | none =>
      rw [e] at hr
      cases hr
    | some r0 =>
      rw [e] at hr
      rw [s40_16]
      simp (disch := omega) only [s40_0, s40_1, s40_4, s40_7, s40_8, s40_11, s40_14, s40_15, s40_17, s40_20, s40_23, s40_24, s40_27, s40_30, s40_31, s40_34, s40_37, s40_38, s40_39, s40_42, s40_45, s40_46, s40_49, s40_50, s40_51, s40_52, s40_55, s40_57, s40_60, s40_63, s40_64, s40_67, s40_70, s40_71, s40_74, s40_77, s40_78, s40_81, s40_84, true_or, or_true, or_false, false_or, or_self, Int32.reduceLT, Int32.reduceLE, Nat.add_zero, Nat.zero_add, Nat.not_lt_zero, not_false_eq_true, not_true_eq_false, and_assoc, kl_q, kl_i, kl_r, kl_n, kl_0, kl_l, cs_0, cs_i, cs_r, cs_n, cs_l, aRf_s, aRf_n, gi_wl, gi_wr, gl_wi, gl_wl, gl_wr, gr_wi, gr_wl, gr_wr, sh_wi, sh_wl, sh_wr, gl_cp, gr_cp, sh_cp, gl_rw, gr_rw, sh_rw, gi_rl, gr_rl, sh_rl, Option.toList_some, Option.toList_none, List.nil_append, List.cons_append, List.append_nil, Option.some.injEq, Prod.mk.injEq, and_true, true_and, and_self, if_true, if_false, reduceCtorEq, Nat.reduceLeDiff, Nat.reduceLT, Nat.reduceAdd, Nat.reduceEqDiff, false_and, and_false, exists_const, exists_eq_left, exists_eq_left', exists_and_left, and_assoc, nltL, nltR, nleL, nleR, neqL, neqR, naL, naR, nmL, nmR, nI_ltI, nI_leI, nI_eq, nI_add, nI_mul, nI_clamp, n0l, n0r, nm1, nm1', nm1l, nm1r, nm1g, nsL, nI_m1, Nat.add_sub_cancel, vpn, vpL, nclL, le32, leLL, leLN, leNL, leNN, inA, nb0, nb1, gi_wi_n, gi_wi_e, gi_rw_n, gi_rw_e, aWi_rw, ifl, ifl_, ifle, ifle_, ifq, ifq_, ifnq, ifnq_, ifnl, ifnl_, ifnle, ifnle_, z51 ok, nk]
      refine c_clause e hp hl (by omega) rc cc (fun h1 a1 => ?_)
      cases r0 with
      | inl q =>
        cases hr
        intro f1
        have ok := a1.1
        simp (disch := omega) only [s40_0, s40_1, s40_4, s40_7, s40_8, s40_11, s40_14, s40_15, s40_17, s40_20, s40_23, s40_24, s40_27, s40_30, s40_31, s40_34, s40_37, s40_38, s40_39, s40_42, s40_45, s40_46, s40_49, s40_50, s40_51, s40_52, s40_55, s40_57, s40_60, s40_63, s40_64, s40_67, s40_70, s40_71, s40_74, s40_77, s40_78, s40_81, s40_84, s76_0, s76_1, s76_4, true_or, or_true, or_false, false_or, or_self, Int32.reduceLT, Int32.reduceLE, Nat.add_zero, Nat.zero_add, Nat.not_lt_zero, not_false_eq_true, not_true_eq_false, and_assoc, kl_q, kl_i, kl_r, kl_n, kl_0, kl_l, cs_0, cs_i, cs_r, cs_n, cs_l, aRf_s, aRf_n, gi_wl, gi_wr, gl_wi, gl_wl, gl_wr, gr_wi, gr_wl, gr_wr, sh_wi, sh_wl, sh_wr, gl_cp, gr_cp, sh_cp, gl_rw, gr_rw, sh_rw, gi_rl, gr_rl, sh_rl, Option.toList_some, Option.toList_none, List.nil_append, List.cons_append, List.append_nil, Option.some.injEq, Prod.mk.injEq, and_true, true_and, and_self, if_true, if_false, reduceCtorEq, Nat.reduceLeDiff, Nat.reduceLT, Nat.reduceAdd, Nat.reduceEqDiff, false_and, and_false, exists_const, exists_eq_left, exists_eq_left', exists_and_left, and_assoc, nltL, nltR, nleL, nleR, neqL, neqR, naL, naR, nmL, nmR, nI_ltI, nI_leI, nI_eq, nI_add, nI_mul, nI_clamp, n0l, n0r, nm1, nm1', nm1l, nm1r, nm1g, nsL, nI_m1, Nat.add_sub_cancel, vpn, vpL, nclL, le32, leLL, leLN, leNL, leNN, inA, nb0, nb1, gi_wi_n, gi_wi_e, gi_rw_n, gi_rw_e, aWi_rw, ifl, ifl_, ifle, ifle_, ifq, ifq_, ifnq, ifnq_, ifnl, ifnl_, ifnle, ifnle_, z51 ok, z33 ok, r51_1 ok, f1]
        exact hq h1 a1
      | inr x =>
        obtain ⟨p1, t1, t2⟩ := x
        simp only at hr
        obtain ⟨c1, c2, c3⟩ : CpR T p (.inr (p1, t1, t2)) := clG_pos e hp
        rw [List.length_append] at c3
        have hs := sk_le (B := B) c2
        have ss := sk_sk (B := B) c2
        intro rc1 cc1
        have ok := rc1.ok
        simp (disch := omega) only [s40_27, s40_30, s40_31, s40_34, s40_37, s40_38, s40_39, s40_42, s40_45, s40_46, s40_49, s40_50, s40_51, s40_52, s40_55, s40_57, s40_60, s40_63, s40_64, s40_67, s40_70, s40_71, s40_74, s40_77, s40_78, s40_81, s40_84, true_or, or_true, or_false, false_or, or_self, Int32.reduceLT, Int32.reduceLE, Nat.add_zero, Nat.zero_add, Nat.not_lt_zero, not_false_eq_true, not_true_eq_false, and_assoc, kl_q, kl_i, kl_r, kl_n, kl_0, kl_l, cs_0, cs_i, cs_r, cs_n, cs_l, aRf_s, aRf_n, gi_wl, gi_wr, gl_wi, gl_wl, gl_wr, gr_wi, gr_wl, gr_wr, sh_wi, sh_wl, sh_wr, gl_cp, gr_cp, sh_cp, gl_rw, gr_rw, sh_rw, gi_rl, gr_rl, sh_rl, Option.toList_some, Option.toList_none, List.nil_append, List.cons_append, List.append_nil, Option.some.injEq, Prod.mk.injEq, and_true, true_and, and_self, if_true, if_false, reduceCtorEq, Nat.reduceLeDiff, Nat.reduceLT, Nat.reduceAdd, Nat.reduceEqDiff, false_and, and_false, exists_const, exists_eq_left, exists_eq_left', exists_and_left, and_assoc, nltL, nltR, nleL, nleR, neqL, neqR, naL, naR, nmL, nmR, nI_ltI, nI_leI, nI_eq, nI_add, nI_mul, nI_clamp, n0l, n0r, nm1, nm1', nm1l, nm1r, nm1g, nsL, nI_m1, Nat.add_sub_cancel, vpn, vpL, nclL, le32, leLL, leLN, leNL, leNN, inA, nb0, nb1, gi_wi_n, gi_wi_e, gi_rw_n, gi_rw_e, aWi_rw, ifl, ifl_, ifle, ifle_, ifq, ifq_, ifnq, ifnq_, ifnl, ifnl_, ifnle, ifnle_, z51 ok, z33 ok, r51_1 ok]
        refine c_look rc1.1 c2 rc1.2.2.1 (fun h2 a2 f2 f3 => ?_)
        have rc2 := rc1.at a2 f2
        have cc2 := cc1.ag (a2.mono (fun a k z => at_lx z))
        have b2 : Ag LY h h2 := a1.trans (a2.mono (fun a k z => at_ly z))
        have ok := rc2.ok
        by_cases ht : T ≤ sk B T p1
        · rw [if_pos ht] at hr
          cases hr
          have e1 : lkI B T (sk B T p1) = -1 := if_neg (by omega)
          simp (disch := omega) only [s40_45, s40_46, s40_49, s40_50, s40_51, s40_52, s40_55, s40_57, s40_60, s40_63, s40_64, s40_67, s40_70, s40_71, s40_74, s40_77, s40_78, s40_81, s40_84, true_or, or_true, or_false, false_or, or_self, Int32.reduceLT, Int32.reduceLE, Nat.add_zero, Nat.zero_add, Nat.not_lt_zero, not_false_eq_true, not_true_eq_false, and_assoc, kl_q, kl_i, kl_r, kl_n, kl_0, kl_l, cs_0, cs_i, cs_r, cs_n, cs_l, aRf_s, aRf_n, gi_wl, gi_wr, gl_wi, gl_wl, gl_wr, gr_wi, gr_wl, gr_wr, sh_wi, sh_wl, sh_wr, gl_cp, gr_cp, sh_cp, gl_rw, gr_rw, sh_rw, gi_rl, gr_rl, sh_rl, Option.toList_some, Option.toList_none, List.nil_append, List.cons_append, List.append_nil, Option.some.injEq, Prod.mk.injEq, and_true, true_and, and_self, if_true, if_false, reduceCtorEq, Nat.reduceLeDiff, Nat.reduceLT, Nat.reduceAdd, Nat.reduceEqDiff, false_and, and_false, exists_const, exists_eq_left, exists_eq_left', exists_and_left, and_assoc, nltL, nltR, nleL, nleR, neqL, neqR, naL, naR, nmL, nmR, nI_ltI, nI_leI, nI_eq, nI_add, nI_mul, nI_clamp, n0l, n0r, nm1, nm1', nm1l, nm1r, nm1g, nsL, nI_m1, Nat.add_sub_cancel, vpn, vpL, nclL, le32, leLL, leLN, leNL, leNN, inA, nb0, nb1, gi_wi_n, gi_wi_e, gi_rw_n, gi_rw_e, aWi_rw, ifl, ifl_, ifle, ifle_, ifq, ifq_, ifnq, ifnq_, ifnl, ifnl_, ifnle, ifnle_, e1]
          exact hq h2 b2 ⟨_, rc2⟩ cc2
        · rw [if_neg ht] at hr
          have e1 : lkI B T (sk B T p1) = nI (B (sk B T p1)) := if_pos (by omega)
          have b256 := hbb (sk B T p1) (by omega)
          have e2 : ¬ lkI B T (sk B T p1) = -1 := by
            rw [e1]
            exact fun z => (nm1 (by omega)).mp z
          simp (disch := omega) only [s40_45, s40_46, s40_49, s40_50, s40_51, s40_52, s40_55, s40_57, s40_60, s40_63, s40_64, s40_67, s40_70, s40_71, s40_74, s40_77, s40_78, s40_81, s40_84, true_or, or_true, or_false, false_or, or_self, Int32.reduceLT, Int32.reduceLE, Nat.add_zero, Nat.zero_add, Nat.not_lt_zero, not_false_eq_true, not_true_eq_false, and_assoc, kl_q, kl_i, kl_r, kl_n, kl_0, kl_l, cs_0, cs_i, cs_r, cs_n, cs_l, aRf_s, aRf_n, gi_wl, gi_wr, gl_wi, gl_wl, gl_wr, gr_wi, gr_wl, gr_wr, sh_wi, sh_wl, sh_wr, gl_cp, gr_cp, sh_cp, gl_rw, gr_rw, sh_rw, gi_rl, gr_rl, sh_rl, Option.toList_some, Option.toList_none, List.nil_append, List.cons_append, List.append_nil, Option.some.injEq, Prod.mk.injEq, and_true, true_and, and_self, if_true, if_false, reduceCtorEq, Nat.reduceLeDiff, Nat.reduceLT, Nat.reduceAdd, Nat.reduceEqDiff, false_and, and_false, exists_const, exists_eq_left, exists_eq_left', exists_and_left, and_assoc, nltL, nltR, nleL, nleR, neqL, neqR, naL, naR, nmL, nmR, nI_ltI, nI_leI, nI_eq, nI_add, nI_mul, nI_clamp, n0l, n0r, nm1, nm1', nm1l, nm1r, nm1g, nsL, nI_m1, Nat.add_sub_cancel, vpn, vpL, nclL, le32, leLL, leLN, leNL, leNN, inA, nb0, nb1, gi_wi_n, gi_wi_e, gi_rw_n, gi_rw_e, aWi_rw, ifl, ifl_, ifle, ifle_, ifq, ifq_, ifnq, ifnq_, ifnl, ifnl_, ifnle, ifnle_, z51 ok, z33 ok, r51_1 ok, e2]
          refine c_take (b := 59) rc2.1 hs.2 f2 (by omega) (fun hb h3 a3 g1 g2 => ?_) (fun hb h3 a3 g1 => ?_)
          · rw [ss] at hb g1
            rw [if_pos ((lk_sg hbb (by omega) (by omega)).mp hb)] at hr
            have rc3 := rc2.at a3 g1
            have cc3 := cc2.ag (a3.mono (fun a k z => at_lx z))
            simp (disch := omega) only [s40_60, s40_63, s40_64, s40_67, s40_70, s40_71, s40_74, s40_77, s40_78, s40_81, s40_84, true_or, or_true, or_false, false_or, or_self, Int32.reduceLT, Int32.reduceLE, Nat.add_zero, Nat.zero_add, Nat.not_lt_zero, not_false_eq_true, not_true_eq_false, and_assoc, kl_q, kl_i, kl_r, kl_n, kl_0, kl_l, cs_0, cs_i, cs_r, cs_n, cs_l, aRf_s, aRf_n, gi_wl, gi_wr, gl_wi, gl_wl, gl_wr, gr_wi, gr_wl, gr_wr, sh_wi, sh_wl, sh_wr, gl_cp, gr_cp, sh_cp, gl_rw, gr_rw, sh_rw, gi_rl, gr_rl, sh_rl, Option.toList_some, Option.toList_none, List.nil_append, List.cons_append, List.append_nil, Option.some.injEq, Prod.mk.injEq, and_true, true_and, and_self, if_true, if_false, reduceCtorEq, Nat.reduceLeDiff, Nat.reduceLT, Nat.reduceAdd, Nat.reduceEqDiff, false_and, and_false, exists_const, exists_eq_left, exists_eq_left', exists_and_left, and_assoc, nltL, nltR, nleL, nleR, neqL, neqR, naL, naR, nmL, nmR, nI_ltI, nI_leI, nI_eq, nI_add, nI_mul, nI_clamp, n0l, n0r, nm1, nm1', nm1l, nm1r, nm1g, nsL, nI_m1, Nat.add_sub_cancel, vpn, vpL, nclL, le32, leLL, leLN, leNL, leNN, inA, nb0, nb1, gi_wi_n, gi_wi_e, gi_rw_n, gi_rw_e, aWi_rw, ifl, ifl_, ifle, ifle_, ifq, ifq_, ifnq, ifnq_, ifnl, ifnl_, ifnle, ifnle_]
            have t := ih (sk B T p1 + 1) _ _ h3 hr (by omega) (by rw [List.length_append, List.length_append]; omega) (by rw [nwC_len]; omega) rc3 cc3 (fun h4 a4 => hq h4 ((b2.trans (a3.mono (fun a k z => at_ly z))).trans a4))
            rw [nwC_len] at t
            exact t
          · rw [ss] at hb g1
            rw [if_neg (fun q => hb ((lk_sg hbb (by omega) (by omega)).mpr q))] at hr
            cases hr
            have ok := a3.1
            simp (disch := omega) only [s40_60, s40_63, s40_64, s40_67, s40_70, s40_71, s40_74, s40_77, s40_78, s40_81, s40_84, s76_0, s76_1, s76_4, true_or, or_true, or_false, false_or, or_self, Int32.reduceLT, Int32.reduceLE, Nat.add_zero, Nat.zero_add, Nat.not_lt_zero, not_false_eq_true, not_true_eq_false, and_assoc, kl_q, kl_i, kl_r, kl_n, kl_0, kl_l, cs_0, cs_i, cs_r, cs_n, cs_l, aRf_s, aRf_n, gi_wl, gi_wr, gl_wi, gl_wl, gl_wr, gr_wi, gr_wl, gr_wr, sh_wi, sh_wl, sh_wr, gl_cp, gr_cp, sh_cp, gl_rw, gr_rw, sh_rw, gi_rl, gr_rl, sh_rl, Option.toList_some, Option.toList_none, List.nil_append, List.cons_append, List.append_nil, Option.some.injEq, Prod.mk.injEq, and_true, true_and, and_self, if_true, if_false, reduceCtorEq, Nat.reduceLeDiff, Nat.reduceLT, Nat.reduceAdd, Nat.reduceEqDiff, false_and, and_false, exists_const, exists_eq_left, exists_eq_left', exists_and_left, and_assoc, nltL, nltR, nleL, nleR, neqL, neqR, naL, naR, nmL, nmR, nI_ltI, nI_leI, nI_eq, nI_add, nI_mul, nI_clamp, n0l, n0r, nm1, nm1', nm1l, nm1r, nm1g, nsL, nI_m1, Nat.add_sub_cancel, vpn, vpL, nclL, le32, leLL, leLN, leNL, leNN, inA, nb0, nb1, gi_wi_n, gi_wi_e, gi_rw_n, gi_rw_e, aWi_rw, ifl, ifl_, ifle, ifle_, ifq, ifq_, ifnq, ifnq_, ifnl, ifnl_, ifnle, ifnle_, z51 ok, z33 ok, r51_1 ok, g1]
            exact hq h3 (b2.trans (a3.mono (fun a k z => at_ly z)))
theorem c_readLaw {f : Nat} {h : aM} (tc : TpC h B T) (ic : ICon h) (hr : lwG B T n f 0 [] [] = some r) (hq : ∀ h', Ag LY h h' → PostL B T Q r h') : AW (d + 12 * (7 - 0) + 17) 40 0 [some (.ref 51), none] [] h Q := by
  have ok := tc.1
  simp (disch := omega) only [s40_0, s40_1, s40_4, s40_7, s40_8, s40_11, s40_14, s40_15, s40_17, s40_20, s40_23, s40_24, s40_27, s40_30, s40_31, s40_34, s40_37, s40_38, s40_39, s40_42, s40_45, s40_46, s40_49, s40_50, s40_51, s40_52, s40_55, s40_57, s40_60, s40_63, s40_64, s40_67, s40_70, s40_71, s40_74, s40_77, s40_78, s40_81, s40_84, s75_0, s75_1, s75_2, s75_5, s75_6, s75_7, s75_10, s29_0, s29_1, s29_2, s29_5, s29_6, s29_7, s29_10, true_or, or_true, or_false, false_or, or_self, Int32.reduceLT, Int32.reduceLE, Nat.add_zero, Nat.zero_add, Nat.not_lt_zero, not_false_eq_true, not_true_eq_false, and_assoc, kl_q, kl_i, kl_r, kl_n, kl_0, kl_l, cs_0, cs_i, cs_r, cs_n, cs_l, aRf_s, aRf_n, gi_wl, gi_wr, gl_wi, gl_wl, gl_wr, gr_wi, gr_wl, gr_wr, sh_wi, sh_wl, sh_wr, gl_cp, gr_cp, sh_cp, gl_rw, gr_rw, sh_rw, gi_rl, gr_rl, sh_rl, Option.toList_some, Option.toList_none, List.nil_append, List.cons_append, List.append_nil, Option.some.injEq, Prod.mk.injEq, and_true, true_and, and_self, if_true, if_false, reduceCtorEq, Nat.reduceLeDiff, Nat.reduceLT, Nat.reduceAdd, Nat.reduceEqDiff, false_and, and_false, exists_const, exists_eq_left, exists_eq_left', exists_and_left, and_assoc, nltL, nltR, nleL, nleR, neqL, neqR, naL, naR, nmL, nmR, nI_ltI, nI_leI, nI_eq, nI_add, nI_mul, nI_clamp, n0l, n0r, nm1, nm1', nm1l, nm1r, nm1g, nsL, nI_m1, Nat.add_sub_cancel, vpn, vpL, nclL, le32, leLL, leLN, leNL, leNN, inA, nb0, nb1, gi_wi_n, gi_wi_e, gi_rw_n, gi_rw_e, aWi_rw, ifl, ifl_, ifle, ifle_, ifq, ifq_, ifnq, ifnq_, ifnl, ifnl_, ifnle, ifnle_, z51 ok, z33 ok, z52 ok, r51_0 ok, r51_1 ok]
  obtain ⟨h1, eh1⟩ : ∃ h1, h1 = aWi (aWi (aWi (aWi h 33 2 0) 33 3 (-1)) 52 3 0) 52 4 0 := ⟨_, rfl⟩
  rw [← eh1]
  have a1 : Ag LY h h1 := by
    rw [eh1]
    exact ((((Ag.refl ok).wi (by unfold LY LX; omega)).wi (by unfold LY LX; omega)).wi (by unfold LY LX; omega)).wi (by unfold LY LX; omega)
  have rc1 : RdC h1 B T 0 [] := by
    refine ⟨tc.ag a1 (by unfold LY LX; omega) (by unfold LY LX; omega), fun x j h1 h2 => ?_, ?_, ?_, fun i t ht => ?_⟩
    · rw [a1.2 _ _ (by unfold LY LX; omega)]
      exact ic x j h1 h2
    · rw [eh1, gi_wi_n (by omega), gi_wi_n (by omega), gi_wi_n (by omega), gi_wi_e]
      rfl
    · rw [eh1, gi_wi_n (by omega), gi_wi_e]
      rfl
    · simp at ht
  have cc1 : ClC h1 [] := ⟨by rw [eh1, gi_wi_e]; rfl, fun i c hc => by simp at hc⟩
  exact c_lawGo f 0 [] [] h1 hr (Nat.zero_le _) (Nat.le_refl _) (Nat.le_refl _) rc1 cc1 (fun h2 a2 => hq h2 (a1.trans a2))
theorem m_atEnd {h : aM} {p : Nat} {ts : List Tk} (rc : RdM h B T p ts sl 0) (hp : p ≤ T) (h1 : T ≤ sk B T p → ∀ h', Ag (fun a k => a = 399 ∧ k = 3) h h' → RdM h' B T (sk B T p) ts sl 0 → Q (some (.int (-1))) h') (h2 : ¬ T ≤ sk B T p → ∀ h', Ag AtY h h' → Q (some (.int (nI (sk B T p)))) h') : AW (d + 2) 188 0 [some (.ref 399)] [] h Q := by
  have ok := rc.ok
  have hbb := rc.1.2.2.2.2
  have w0 := rc.2.2.1
  simp (disch := omega) only [s188_0, s188_1, s188_4, s188_5, s188_8, s188_9, s188_12, s188_13, s188_16, s188_17, s188_20, s188_21, s188_24, true_or, or_true, or_false, false_or, or_self, Int32.reduceLT, Int32.reduceLE, Nat.add_zero, Nat.zero_add, Nat.not_lt_zero, not_false_eq_true, not_true_eq_false, and_assoc, kl_q, kl_i, kl_r, kl_n, kl_0, kl_l, cs_0, cs_i, cs_r, cs_n, cs_l, aRf_s, aRf_n, gi_wl, gi_wr, gl_wi, gl_wl, gl_wr, gr_wi, gr_wl, gr_wr, sh_wi, sh_wl, sh_wr, gl_cp, gr_cp, sh_cp, gl_rw, gr_rw, sh_rw, gi_rl, gr_rl, sh_rl, Option.toList_some, Option.toList_none, List.nil_append, List.cons_append, List.append_nil, Option.some.injEq, Prod.mk.injEq, and_true, true_and, and_self, if_true, if_false, reduceCtorEq, Nat.reduceLeDiff, Nat.reduceLT, Nat.reduceAdd, Nat.reduceEqDiff, false_and, and_false, exists_const, exists_eq_left, exists_eq_left', exists_and_left, and_assoc, nltL, nltR, nleL, nleR, neqL, neqR, naL, naR, nmL, nmR, nI_ltI, nI_leI, nI_eq, nI_add, nI_mul, nI_clamp, n0l, n0r, nm1, nm1', nm1l, nm1r, nm1g, nsL, nI_m1, Nat.add_sub_cancel, vpn, vpL, nclL, le32, leLL, leLN, leNL, leNN, inA, nb0, nb1, gi_wi_n, gi_wi_e, gi_rw_n, gi_rw_e, aWi_rw, ifl, ifl_, ifle, ifle_, ifq, ifq_, ifnq, ifnq_, ifnl, ifnl_, ifnle, ifnle_, z399 ok, w0]
  refine m_lookM rc.1 hp rc.2.1 (fun h3 a3 f3 => ?_)
  have rc3 := rc.at a3 f3
  have ok := rc3.ok
  have w3 := rc3.2.2.1
  by_cases ht : T ≤ sk B T p
  · have e1 : lkI B T (sk B T p) = -1 := if_neg (by omega)
    simp (disch := omega) only [s188_0, s188_1, s188_4, s188_5, s188_8, s188_9, s188_12, s188_13, s188_16, s188_17, s188_20, s188_21, s188_24, true_or, or_true, or_false, false_or, or_self, Int32.reduceLT, Int32.reduceLE, Nat.add_zero, Nat.zero_add, Nat.not_lt_zero, not_false_eq_true, not_true_eq_false, and_assoc, kl_q, kl_i, kl_r, kl_n, kl_0, kl_l, cs_0, cs_i, cs_r, cs_n, cs_l, aRf_s, aRf_n, gi_wl, gi_wr, gl_wi, gl_wl, gl_wr, gr_wi, gr_wl, gr_wr, sh_wi, sh_wl, sh_wr, gl_cp, gr_cp, sh_cp, gl_rw, gr_rw, sh_rw, gi_rl, gr_rl, sh_rl, Option.toList_some, Option.toList_none, List.nil_append, List.cons_append, List.append_nil, Option.some.injEq, Prod.mk.injEq, and_true, true_and, and_self, if_true, if_false, reduceCtorEq, Nat.reduceLeDiff, Nat.reduceLT, Nat.reduceAdd, Nat.reduceEqDiff, false_and, and_false, exists_const, exists_eq_left, exists_eq_left', exists_and_left, and_assoc, nltL, nltR, nleL, nleR, neqL, neqR, naL, naR, nmL, nmR, nI_ltI, nI_leI, nI_eq, nI_add, nI_mul, nI_clamp, n0l, n0r, nm1, nm1', nm1l, nm1r, nm1g, nsL, nI_m1, Nat.add_sub_cancel, vpn, vpL, nclL, le32, leLL, leLN, leNL, leNN, inA, nb0, nb1, gi_wi_n, gi_wi_e, gi_rw_n, gi_rw_e, aWi_rw, ifl, ifl_, ifle, ifle_, ifq, ifq_, ifnq, ifnq_, ifnl, ifnl_, ifnle, ifnle_, z399 ok, e1, w3]
    exact h1 ht h3 a3 rc3
  · have e1 : lkI B T (sk B T p) = nI (B (sk B T p)) := if_pos (by omega)
    have b256 := hbb (sk B T p) (by omega)
    have e2 : ¬ lkI B T (sk B T p) = -1 := by
      rw [e1]
      exact fun z => (nm1 (by omega)).mp z
    simp (disch := omega) only [s188_0, s188_1, s188_4, s188_5, s188_8, s188_9, s188_12, s188_13, s188_16, s188_17, s188_20, s188_21, s188_24, true_or, or_true, or_false, false_or, or_self, Int32.reduceLT, Int32.reduceLE, Nat.add_zero, Nat.zero_add, Nat.not_lt_zero, not_false_eq_true, not_true_eq_false, and_assoc, kl_q, kl_i, kl_r, kl_n, kl_0, kl_l, cs_0, cs_i, cs_r, cs_n, cs_l, aRf_s, aRf_n, gi_wl, gi_wr, gl_wi, gl_wl, gl_wr, gr_wi, gr_wl, gr_wr, sh_wi, sh_wl, sh_wr, gl_cp, gr_cp, sh_cp, gl_rw, gr_rw, sh_rw, gi_rl, gr_rl, sh_rl, Option.toList_some, Option.toList_none, List.nil_append, List.cons_append, List.append_nil, Option.some.injEq, Prod.mk.injEq, and_true, true_and, and_self, if_true, if_false, reduceCtorEq, Nat.reduceLeDiff, Nat.reduceLT, Nat.reduceAdd, Nat.reduceEqDiff, false_and, and_false, exists_const, exists_eq_left, exists_eq_left', exists_and_left, and_assoc, nltL, nltR, nleL, nleR, neqL, neqR, naL, naR, nmL, nmR, nI_ltI, nI_leI, nI_eq, nI_add, nI_mul, nI_clamp, n0l, n0r, nm1, nm1', nm1l, nm1r, nm1g, nsL, nI_m1, Nat.add_sub_cancel, vpn, vpL, nclL, le32, leLL, leLN, leNL, leNN, inA, nb0, nb1, gi_wi_n, gi_wi_e, gi_rw_n, gi_rw_e, aWi_rw, ifl, ifl_, ifle, ifle_, ifq, ifq_, ifnq, ifnq_, ifnl, ifnl_, ifnle, ifnle_, z399 ok, e2, m_bad ok f3 w3]
    exact h2 ht _ ((a3.mono (fun a k z => ⟨z.1, Or.inl z.2⟩)).wi ⟨rfl, Or.inr rfl⟩)
theorem m_lawE {h : aM} {q : Nat} (ok : OK h) (w : gi h 399 4 = nI q) (hq9 : q < 2 ^ 31) (hq : Q (some (.int (nI q))) h) : AW (d + 2) 189 9 [some (.ref 399), some (.int (nI sl))] [] h Q := by
  rw [s189_9]
  simp (disch := omega) only [s189_0, s189_1, s189_2, s189_5, s189_6, s189_10, s189_13, s189_14, s189_17, s189_18, s189_21, s189_23, s189_26, s189_27, s189_27i, s189_28, s189_31, s189_32, s189_33, s189_36, s189_37, s189_40, s189_43, s189_44, s189_47, s188_0, s188_1, s188_4, s188_5, s188_8, s188_9, s188_12, s188_13, s188_16, s188_17, s188_20, s188_21, s188_24, true_or, or_true, or_false, false_or, or_self, Int32.reduceLT, Int32.reduceLE, Nat.add_zero, Nat.zero_add, Nat.not_lt_zero, not_false_eq_true, not_true_eq_false, and_assoc, kl_q, kl_i, kl_r, kl_n, kl_0, kl_l, cs_0, cs_i, cs_r, cs_n, cs_l, aRf_s, aRf_n, gi_wl, gi_wr, gl_wi, gl_wl, gl_wr, gr_wi, gr_wl, gr_wr, sh_wi, sh_wl, sh_wr, gl_cp, gr_cp, sh_cp, gl_rw, gr_rw, sh_rw, gi_rl, gr_rl, sh_rl, Option.toList_some, Option.toList_none, List.nil_append, List.cons_append, List.append_nil, Option.some.injEq, Prod.mk.injEq, and_true, true_and, and_self, if_true, if_false, reduceCtorEq, Nat.reduceLeDiff, Nat.reduceLT, Nat.reduceAdd, Nat.reduceEqDiff, false_and, and_false, exists_const, exists_eq_left, exists_eq_left', exists_and_left, and_assoc, nltL, nltR, nleL, nleR, neqL, neqR, naL, naR, nmL, nmR, nI_ltI, nI_leI, nI_eq, nI_add, nI_mul, nI_clamp, n0l, n0r, nm1, nm1', nm1l, nm1r, nm1g, nsL, nI_m1, Nat.add_sub_cancel, vpn, vpL, nclL, le32, leLL, leLN, leNL, leNN, inA, nb0, nb1, gi_wi_n, gi_wi_e, gi_rw_n, gi_rw_e, aWi_rw, ifl, ifl_, ifle, ifle_, ifq, ifq_, ifnq, ifnq_, ifnl, ifnl_, ifnle, ifnle_, z399 ok, w]
  exact hq
theorem m_lawGo : ∀ (f p : Nat) (ts : List Tk) (cs : List Cl) (h : aM), afG B T n f p ts cs = some r → p ≤ T → ts.length ≤ p → 4 * cs.length ≤ p + 1 → RdM h B T p ts sl 0 → ClM h sl cs → (∀ h', Ag (MY sl) h h' → PostN B T sl Q r h') → AW (d + 12 * (7 - 0) + 14) 189 9 [some (.ref 399), some (.int (nI sl))] [] h Q := by
  intro f
  induction f with
  | zero =>
    intro p ts cs h hr hp hl hc rc cc hq
    have ok := rc.ok
    have hbb := rc.1.2.2.2.2
    have w0 := rc.2.2.1
    have hs := sk_le (B := B) hp
    have ss := sk_sk (B := B) hp
    unfold afG at hr
    have l59 := lk_sg (q := sk B T p) hbb (b := 59) (by omega) (by omega)
    rw [show nI 59 = (59 : Int32) from rfl] at l59
    by_cases b59 : sgB B T (sk B T p) = 59
    · have := sg_lt (by omega) b59
      rw [if_neg (by omega), if_pos b59] at hr
      cases hr
    · have n59 : ¬ lkI B T (sk B T p) = 59 := fun q => b59 (l59.mp q)
      rw [s189_9]
      simp (disch := omega) only [s189_0, s189_1, s189_2, s189_5, s189_6, s189_10, s189_13, s189_14, s189_17, s189_18, s189_21, s189_23, s189_26, s189_27, s189_27i, s189_28, s189_31, s189_32, s189_33, s189_36, s189_37, s189_40, s189_43, s189_44, s189_47, true_or, or_true, or_false, false_or, or_self, Int32.reduceLT, Int32.reduceLE, Nat.add_zero, Nat.zero_add, Nat.not_lt_zero, not_false_eq_true, not_true_eq_false, and_assoc, kl_q, kl_i, kl_r, kl_n, kl_0, kl_l, cs_0, cs_i, cs_r, cs_n, cs_l, aRf_s, aRf_n, gi_wl, gi_wr, gl_wi, gl_wl, gl_wr, gr_wi, gr_wl, gr_wr, sh_wi, sh_wl, sh_wr, gl_cp, gr_cp, sh_cp, gl_rw, gr_rw, sh_rw, gi_rl, gr_rl, sh_rl, Option.toList_some, Option.toList_none, List.nil_append, List.cons_append, List.append_nil, Option.some.injEq, Prod.mk.injEq, and_true, true_and, and_self, if_true, if_false, reduceCtorEq, Nat.reduceLeDiff, Nat.reduceLT, Nat.reduceAdd, Nat.reduceEqDiff, false_and, and_false, exists_const, exists_eq_left, exists_eq_left', exists_and_left, and_assoc, nltL, nltR, nleL, nleR, neqL, neqR, naL, naR, nmL, nmR, nI_ltI, nI_leI, nI_eq, nI_add, nI_mul, nI_clamp, n0l, n0r, nm1, nm1', nm1l, nm1r, nm1g, nsL, nI_m1, Nat.add_sub_cancel, vpn, vpL, nclL, le32, leLL, leLN, leNL, leNN, inA, nb0, nb1, gi_wi_n, gi_wi_e, gi_rw_n, gi_rw_e, aWi_rw, ifl, ifl_, ifle, ifle_, ifq, ifq_, ifnq, ifnq_, ifnl, ifnl_, ifnle, ifnle_, z399 ok, w0]
      refine m_lookM rc.1 hp rc.2.1 (fun h1 a1 f1 => ?_)
      have rc1 := rc.at a1 f1
      have ok := rc1.ok
      have b1 : Ag (MY sl) h h1 := a1.mono (fun a k z => m3_my z)
      have cc1 := cc.ag (a1.mono (fun a k z => ml3 z))
      simp (disch := omega) only [s189_21, s189_23, s189_26, s189_27, s189_27i, s189_28, s189_31, s189_32, s189_33, s189_36, s189_37, s189_40, s189_43, s189_44, s189_47, true_or, or_true, or_false, false_or, or_self, Int32.reduceLT, Int32.reduceLE, Nat.add_zero, Nat.zero_add, Nat.not_lt_zero, not_false_eq_true, not_true_eq_false, and_assoc, kl_q, kl_i, kl_r, kl_n, kl_0, kl_l, cs_0, cs_i, cs_r, cs_n, cs_l, aRf_s, aRf_n, gi_wl, gi_wr, gl_wi, gl_wl, gl_wr, gr_wi, gr_wl, gr_wr, sh_wi, sh_wl, sh_wr, gl_cp, gr_cp, sh_cp, gl_rw, gr_rw, sh_rw, gi_rl, gr_rl, sh_rl, Option.toList_some, Option.toList_none, List.nil_append, List.cons_append, List.append_nil, Option.some.injEq, Prod.mk.injEq, and_true, true_and, and_self, if_true, if_false, reduceCtorEq, Nat.reduceLeDiff, Nat.reduceLT, Nat.reduceAdd, Nat.reduceEqDiff, false_and, and_false, exists_const, exists_eq_left, exists_eq_left', exists_and_left, and_assoc, nltL, nltR, nleL, nleR, neqL, neqR, naL, naR, nmL, nmR, nI_ltI, nI_leI, nI_eq, nI_add, nI_mul, nI_clamp, n0l, n0r, nm1, nm1', nm1l, nm1r, nm1g, nsL, nI_m1, Nat.add_sub_cancel, vpn, vpL, nclL, le32, leLL, leLN, leNL, leNN, inA, nb0, nb1, gi_wi_n, gi_wi_e, gi_rw_n, gi_rw_e, aWi_rw, ifl, ifl_, ifle, ifle_, ifq, ifq_, ifnq, ifnq_, ifnl, ifnl_, ifnle, ifnle_, z399 ok, n59]
      refine m_atEnd rc1 hs.2 (fun ht h2 a2 rc2 => ?_) (fun ht h2 a2 => ?_)
      · rw [ss] at ht
        rw [if_pos ht] at hr
        cases hr
        simp (disch := omega) only [s189_21, s189_23, s189_26, s189_27, s189_27i, s189_28, s189_31, s189_32, s189_33, s189_36, s189_37, s189_40, s189_43, s189_44, s189_47, true_or, or_true, or_false, false_or, or_self, Int32.reduceLT, Int32.reduceLE, Nat.add_zero, Nat.zero_add, Nat.not_lt_zero, not_false_eq_true, not_true_eq_false, and_assoc, kl_q, kl_i, kl_r, kl_n, kl_0, kl_l, cs_0, cs_i, cs_r, cs_n, cs_l, aRf_s, aRf_n, gi_wl, gi_wr, gl_wi, gl_wl, gl_wr, gr_wi, gr_wl, gr_wr, sh_wi, sh_wl, sh_wr, gl_cp, gr_cp, sh_cp, gl_rw, gr_rw, sh_rw, gi_rl, gr_rl, sh_rl, Option.toList_some, Option.toList_none, List.nil_append, List.cons_append, List.append_nil, Option.some.injEq, Prod.mk.injEq, and_true, true_and, and_self, if_true, if_false, reduceCtorEq, Nat.reduceLeDiff, Nat.reduceLT, Nat.reduceAdd, Nat.reduceEqDiff, false_and, and_false, exists_const, exists_eq_left, exists_eq_left', exists_and_left, and_assoc]
        exact hq h2 (b1.trans (a2.mono (fun a k z => m3_my z))) ⟨_, rc2⟩ (cc1.ag (a2.mono (fun a k z => ml3 z)))
      · rw [ss] at ht ⊢
        rw [if_neg ht, if_neg b59] at hr
        cases hr
        simp (disch := omega) only [s189_21, s189_23, s189_26, s189_27, s189_27i, s189_28, s189_31, s189_32, s189_33, s189_36, s189_37, s189_40, s189_43, s189_44, s189_47, true_or, or_true, or_false, false_or, or_self, Int32.reduceLT, Int32.reduceLE, Nat.add_zero, Nat.zero_add, Nat.not_lt_zero, not_false_eq_true, not_true_eq_false, and_assoc, kl_q, kl_i, kl_r, kl_n, kl_0, kl_l, cs_0, cs_i, cs_r, cs_n, cs_l, aRf_s, aRf_n, gi_wl, gi_wr, gl_wi, gl_wl, gl_wr, gr_wi, gr_wl, gr_wr, sh_wi, sh_wl, sh_wr, gl_cp, gr_cp, sh_cp, gl_rw, gr_rw, sh_rw, gi_rl, gr_rl, sh_rl, Option.toList_some, Option.toList_none, List.nil_append, List.cons_append, List.append_nil, Option.some.injEq, Prod.mk.injEq, and_true, true_and, and_self, if_true, if_false, reduceCtorEq, Nat.reduceLeDiff, Nat.reduceLT, Nat.reduceAdd, Nat.reduceEqDiff, false_and, and_false, exists_const, exists_eq_left, exists_eq_left', exists_and_left, and_assoc]
        exact hq h2 (b1.trans (a2.mono (fun a k z => Or.inl (Or.inl ⟨z.1, z.2.imp id Or.inl⟩))))
  | succ f ih =>
    intro p ts cs h hr hp hl hc rc cc hq
    have ok := rc.ok
    have hT := rc.1.2.1
    have hbb := rc.1.2.2.2.2
    have w0 := rc.2.2.1
    have hs := sk_le (B := B) hp
    have ss := sk_sk (B := B) hp
    unfold afG at hr
    have l59 := lk_sg (q := sk B T p) hbb (b := 59) (by omega) (by omega)
    rw [show nI 59 = (59 : Int32) from rfl] at l59
    rw [s189_9]
    simp (disch := omega) only [s189_0, s189_1, s189_2, s189_5, s189_6, s189_10, s189_13, s189_14, s189_17, s189_18, s189_21, s189_23, s189_26, s189_27, s189_27i, s189_28, s189_31, s189_32, s189_33, s189_36, s189_37, s189_40, s189_43, s189_44, s189_47, true_or, or_true, or_false, false_or, or_self, Int32.reduceLT, Int32.reduceLE, Nat.add_zero, Nat.zero_add, Nat.not_lt_zero, not_false_eq_true, not_true_eq_false, and_assoc, kl_q, kl_i, kl_r, kl_n, kl_0, kl_l, cs_0, cs_i, cs_r, cs_n, cs_l, aRf_s, aRf_n, gi_wl, gi_wr, gl_wi, gl_wl, gl_wr, gr_wi, gr_wl, gr_wr, sh_wi, sh_wl, sh_wr, gl_cp, gr_cp, sh_cp, gl_rw, gr_rw, sh_rw, gi_rl, gr_rl, sh_rl, Option.toList_some, Option.toList_none, List.nil_append, List.cons_append, List.append_nil, Option.some.injEq, Prod.mk.injEq, and_true, true_and, and_self, if_true, if_false, reduceCtorEq, Nat.reduceLeDiff, Nat.reduceLT, Nat.reduceAdd, Nat.reduceEqDiff, false_and, and_false, exists_const, exists_eq_left, exists_eq_left', exists_and_left, and_assoc, nltL, nltR, nleL, nleR, neqL, neqR, naL, naR, nmL, nmR, nI_ltI, nI_leI, nI_eq, nI_add, nI_mul, nI_clamp, n0l, n0r, nm1, nm1', nm1l, nm1r, nm1g, nsL, nI_m1, Nat.add_sub_cancel, vpn, vpL, nclL, le32, leLL, leLN, leNL, leNN, inA, nb0, nb1, gi_wi_n, gi_wi_e, gi_rw_n, gi_rw_e, aWi_rw, ifl, ifl_, ifle, ifle_, ifq, ifq_, ifnq, ifnq_, ifnl, ifnl_, ifnle, ifnle_, z399 ok, w0]
    refine m_lookM rc.1 hp rc.2.1 (fun h1 a1 f1 => ?_)
    have rc1 := rc.at a1 f1
    have ok := rc1.ok
    have b1 : Ag (MY sl) h h1 := a1.mono (fun a k z => m3_my z)
    have cc1 := cc.ag (a1.mono (fun a k z => ml3 z))
    by_cases b59 : sgB B T (sk B T p) = 59
    · have hq1 := sg_lt (by omega) b59
      have f59 := l59.mpr b59
      rw [if_neg (by omega), if_pos b59] at hr
      simp (disch := omega) only [s189_21, s189_23, s189_26, s189_27, s189_27i, s189_28, s189_31, s189_32, s189_33, s189_36, s189_37, true_or, or_true, or_false, false_or, or_self, Int32.reduceLT, Int32.reduceLE, Nat.add_zero, Nat.zero_add, Nat.not_lt_zero, not_false_eq_true, not_true_eq_false, and_assoc, kl_q, kl_i, kl_r, kl_n, kl_0, kl_l, cs_0, cs_i, cs_r, cs_n, cs_l, aRf_s, aRf_n, gi_wl, gi_wr, gl_wi, gl_wl, gl_wr, gr_wi, gr_wl, gr_wr, sh_wi, sh_wl, sh_wr, gl_cp, gr_cp, sh_cp, gl_rw, gr_rw, sh_rw, gi_rl, gr_rl, sh_rl, Option.toList_some, Option.toList_none, List.nil_append, List.cons_append, List.append_nil, Option.some.injEq, Prod.mk.injEq, and_true, true_and, and_self, if_true, if_false, reduceCtorEq, Nat.reduceLeDiff, Nat.reduceLT, Nat.reduceAdd, Nat.reduceEqDiff, false_and, and_false, exists_const, exists_eq_left, exists_eq_left', exists_and_left, and_assoc, nltL, nltR, nleL, nleR, neqL, neqR, naL, naR, nmL, nmR, nI_ltI, nI_leI, nI_eq, nI_add, nI_mul, nI_clamp, n0l, n0r, nm1, nm1', nm1l, nm1r, nm1g, nsL, nI_m1, Nat.add_sub_cancel, vpn, vpL, nclL, le32, leLL, leLN, leNL, leNN, inA, nb0, nb1, gi_wi_n, gi_wi_e, gi_rw_n, gi_rw_e, aWi_rw, ifl, ifl_, ifle, ifle_, ifq, ifq_, ifnq, ifnq_, ifnl, ifnl_, ifnle, ifnle_, z399 ok, f59, f1]
      have rc2 : RdM (aWi h1 399 3 (nI (sk B T p + 1))) B T (sk B T p + 1) ts sl 0 := rc1.at ((Ag.refl ok).wi ⟨rfl, rfl⟩) gi_wi_e
      have cc2 := cc1.ag ((Ag.refl ok).wi (x := nI (sk B T p + 1)) (ml3 ⟨rfl, rfl⟩))
      have b2 : Ag (MY sl) h (aWi h1 399 3 (nI (sk B T p + 1))) := b1.trans ((Ag.refl ok).wi (m3_my ⟨rfl, rfl⟩))
      unfold lwG at hr
      cases e : clG B T n (sk B T p + 1) with
      | none =>
        rw [e] at hr
        cases hr
      | some r0 =>
        rw [e] at hr
        refine m_clause e (by omega) (by omega) (by omega) rc2 cc2 (fun h3 a3 p3 => ?_)
        have b3 := b2.trans a3
        simp (disch := omega) only [s189_37, s189_40, true_or, or_true, or_false, false_or, or_self, Int32.reduceLT, Int32.reduceLE, Nat.add_zero, Nat.zero_add, Nat.not_lt_zero, not_false_eq_true, not_true_eq_false, and_assoc, kl_q, kl_i, kl_r, kl_n, kl_0, kl_l, cs_0, cs_i, cs_r, cs_n, cs_l, aRf_s, aRf_n, gi_wl, gi_wr, gl_wi, gl_wl, gl_wr, gr_wi, gr_wl, gr_wr, sh_wi, sh_wl, sh_wr, gl_cp, gr_cp, sh_cp, gl_rw, gr_rw, sh_rw, gi_rl, gr_rl, sh_rl, Option.toList_some, Option.toList_none, List.nil_append, List.cons_append, List.append_nil, Option.some.injEq, Prod.mk.injEq, and_true, true_and, and_self, if_true, if_false, reduceCtorEq, Nat.reduceLeDiff, Nat.reduceLT, Nat.reduceAdd, Nat.reduceEqDiff, false_and, and_false, exists_const, exists_eq_left, exists_eq_left', exists_and_left, and_assoc]
        cases r0 with
        | inl q =>
          cases hr
          have hq9 : q ≤ T := clG_pos e (by omega)
          exact m_lawE p3.1 p3.2 (by omega) (hq h3 b3)
        | inr x =>
          obtain ⟨p1, t1, t2⟩ := x
          simp only at hr
          obtain ⟨c1, c2, c3⟩ : CpR T (sk B T p + 1) (.inr (p1, t1, t2)) := clG_pos e (by omega)
          rw [List.length_append] at c3
          exact ih p1 _ _ h3 hr c2 (by rw [List.length_append, List.length_append]; omega) (by rw [nwC_len]; omega) p3.1 p3.2 (fun h4 a4 => hq h4 (b3.trans a4))
    · have n59 : ¬ lkI B T (sk B T p) = 59 := fun q => b59 (l59.mp q)
      simp (disch := omega) only [s189_21, s189_23, s189_26, s189_27, s189_27i, s189_28, s189_31, s189_32, s189_33, s189_36, s189_37, s189_40, s189_43, s189_44, s189_47, true_or, or_true, or_false, false_or, or_self, Int32.reduceLT, Int32.reduceLE, Nat.add_zero, Nat.zero_add, Nat.not_lt_zero, not_false_eq_true, not_true_eq_false, and_assoc, kl_q, kl_i, kl_r, kl_n, kl_0, kl_l, cs_0, cs_i, cs_r, cs_n, cs_l, aRf_s, aRf_n, gi_wl, gi_wr, gl_wi, gl_wl, gl_wr, gr_wi, gr_wl, gr_wr, sh_wi, sh_wl, sh_wr, gl_cp, gr_cp, sh_cp, gl_rw, gr_rw, sh_rw, gi_rl, gr_rl, sh_rl, Option.toList_some, Option.toList_none, List.nil_append, List.cons_append, List.append_nil, Option.some.injEq, Prod.mk.injEq, and_true, true_and, and_self, if_true, if_false, reduceCtorEq, Nat.reduceLeDiff, Nat.reduceLT, Nat.reduceAdd, Nat.reduceEqDiff, false_and, and_false, exists_const, exists_eq_left, exists_eq_left', exists_and_left, and_assoc, nltL, nltR, nleL, nleR, neqL, neqR, naL, naR, nmL, nmR, nI_ltI, nI_leI, nI_eq, nI_add, nI_mul, nI_clamp, n0l, n0r, nm1, nm1', nm1l, nm1r, nm1g, nsL, nI_m1, Nat.add_sub_cancel, vpn, vpL, nclL, le32, leLL, leLN, leNL, leNN, inA, nb0, nb1, gi_wi_n, gi_wi_e, gi_rw_n, gi_rw_e, aWi_rw, ifl, ifl_, ifle, ifle_, ifq, ifq_, ifnq, ifnq_, ifnl, ifnl_, ifnle, ifnle_, z399 ok, n59]
      refine m_atEnd rc1 hs.2 (fun ht h2 a2 rc2 => ?_) (fun ht h2 a2 => ?_)
      · rw [ss] at ht
        rw [if_pos ht] at hr
        cases hr
        simp (disch := omega) only [s189_21, s189_23, s189_26, s189_27, s189_27i, s189_28, s189_31, s189_32, s189_33, s189_36, s189_37, s189_40, s189_43, s189_44, s189_47, true_or, or_true, or_false, false_or, or_self, Int32.reduceLT, Int32.reduceLE, Nat.add_zero, Nat.zero_add, Nat.not_lt_zero, not_false_eq_true, not_true_eq_false, and_assoc, kl_q, kl_i, kl_r, kl_n, kl_0, kl_l, cs_0, cs_i, cs_r, cs_n, cs_l, aRf_s, aRf_n, gi_wl, gi_wr, gl_wi, gl_wl, gl_wr, gr_wi, gr_wl, gr_wr, sh_wi, sh_wl, sh_wr, gl_cp, gr_cp, sh_cp, gl_rw, gr_rw, sh_rw, gi_rl, gr_rl, sh_rl, Option.toList_some, Option.toList_none, List.nil_append, List.cons_append, List.append_nil, Option.some.injEq, Prod.mk.injEq, and_true, true_and, and_self, if_true, if_false, reduceCtorEq, Nat.reduceLeDiff, Nat.reduceLT, Nat.reduceAdd, Nat.reduceEqDiff, false_and, and_false, exists_const, exists_eq_left, exists_eq_left', exists_and_left, and_assoc]
        exact hq h2 (b1.trans (a2.mono (fun a k z => m3_my z))) ⟨_, rc2⟩ (cc1.ag (a2.mono (fun a k z => ml3 z)))
      · rw [ss] at ht ⊢
        rw [if_neg ht, if_neg b59] at hr
        cases hr
        simp (disch := omega) only [s189_21, s189_23, s189_26, s189_27, s189_27i, s189_28, s189_31, s189_32, s189_33, s189_36, s189_37, s189_40, s189_43, s189_44, s189_47, true_or, or_true, or_false, false_or, or_self, Int32.reduceLT, Int32.reduceLE, Nat.add_zero, Nat.zero_add, Nat.not_lt_zero, not_false_eq_true, not_true_eq_false, and_assoc, kl_q, kl_i, kl_r, kl_n, kl_0, kl_l, cs_0, cs_i, cs_r, cs_n, cs_l, aRf_s, aRf_n, gi_wl, gi_wr, gl_wi, gl_wl, gl_wr, gr_wi, gr_wl, gr_wr, sh_wi, sh_wl, sh_wr, gl_cp, gr_cp, sh_cp, gl_rw, gr_rw, sh_rw, gi_rl, gr_rl, sh_rl, Option.toList_some, Option.toList_none, List.nil_append, List.cons_append, List.append_nil, Option.some.injEq, Prod.mk.injEq, and_true, true_and, and_self, if_true, if_false, reduceCtorEq, Nat.reduceLeDiff, Nat.reduceLT, Nat.reduceAdd, Nat.reduceEqDiff, false_and, and_false, exists_const, exists_eq_left, exists_eq_left', exists_and_left, and_assoc]
        exact hq h2 (b1.trans (a2.mono (fun a k z => Or.inl (Or.inl ⟨z.1, z.2.imp id Or.inl⟩))))
/-- the cells of a slot of laws, and what reading uses -/
def MX (sl a k : Nat) : Prop := MY sl a k ∨ (a = 399 ∧ k = 14)
theorem m_readLaw {f : Nat} {h : aM} (tc : TpM h B T) (hsl : sl ≤ 4) (hr : lwG B T n (f + 1) 0 [] [] = some r) (hq : ∀ h', Ag (MX sl) h h' → PostN B T sl Q r h') : AW (d + 12 * (7 - 0) + 14) 189 0 [some (.ref 399), some (.int (nI sl))] [] h Q := by
  have ok := tc.1
  have hT := tc.2.1
  have i2 : sl < 5 := by omega
  simp (disch := omega) only [s189_0, s189_1, s189_2, s189_5, s189_6, s189_10, s189_13, s189_14, s189_17, s189_18, s189_21, s189_23, s189_26, s189_27, s189_27i, s189_28, s189_31, s189_32, s189_33, s189_36, s189_37, s189_40, s189_43, s189_44, s189_47, s187_0, s187_1, s187_2, s187_5, s187_6, s187_7, s187_10, s187_11, s187_12, s187_15, s187_16, s187_17, s187_20, s187_21, s187_24, s187_25, s187_26, s187_27, s187_28, s187_31, s187_32, s187_33, s187_34, true_or, or_true, or_false, false_or, or_self, Int32.reduceLT, Int32.reduceLE, Nat.add_zero, Nat.zero_add, Nat.not_lt_zero, not_false_eq_true, not_true_eq_false, and_assoc, kl_q, kl_i, kl_r, kl_n, kl_0, kl_l, cs_0, cs_i, cs_r, cs_n, cs_l, aRf_s, aRf_n, gi_wl, gi_wr, gl_wi, gl_wl, gl_wr, gr_wi, gr_wl, gr_wr, sh_wi, sh_wl, sh_wr, gl_cp, gr_cp, sh_cp, gl_rw, gr_rw, sh_rw, gi_rl, gr_rl, sh_rl, Option.toList_some, Option.toList_none, List.nil_append, List.cons_append, List.append_nil, Option.some.injEq, Prod.mk.injEq, and_true, true_and, and_self, if_true, if_false, reduceCtorEq, Nat.reduceLeDiff, Nat.reduceLT, Nat.reduceAdd, Nat.reduceEqDiff, false_and, and_false, exists_const, exists_eq_left, exists_eq_left', exists_and_left, and_assoc, nltL, nltR, nleL, nleR, neqL, neqR, naL, naR, nmL, nmR, nI_ltI, nI_leI, nI_eq, nI_add, nI_mul, nI_clamp, n0l, n0r, nm1, nm1', nm1l, nm1r, nm1g, nsL, nI_m1, Nat.add_sub_cancel, vpn, vpL, nclL, le32, leLL, leLN, leNL, leNN, inA, nb0, nb1, gi_wi_n, gi_wi_e, gi_rw_n, gi_rw_e, aWi_rw, ifl, ifl_, ifle, ifle_, ifq, ifq_, ifnq, ifnq_, ifnl, ifnl_, ifnle, ifnle_, z399 ok, z403 ok, z404 ok, r399_8 ok, r399_9 ok, i2]
  obtain ⟨h1, eh1⟩ : ∃ h1, h1 = aWi (aWi (aWi (aWi (aWi (aWi h 399 14 (nI sl)) 399 3 0) 399 4 (-1)) 399 5 0) 403 sl 0) 404 sl 0 := ⟨_, rfl⟩
  rw [← eh1]
  have a1 : Ag (MX sl) h h1 := by
    rw [eh1]
    exact ((((((Ag.refl ok).wi (by unfold MX MY ML; omega)).wi (by unfold MX MY ML; omega)).wi (by unfold MX MY ML; omega)).wi (by unfold MX MY ML; omega)).wi (by unfold MX MY ML; omega)).wi (by unfold MX MY ML; omega)
  have rc1 : RdM h1 B T 0 [] sl 0 := by
    refine ⟨tc.ag a1 (by unfold MX MY ML; omega) (by unfold MX MY ML; omega), ?_, ?_, ?_, ?_, hsl, ?_, fun i t ht => ?_⟩
    · rw [eh1, gi_wi_n (by omega), gi_wi_n (by omega), gi_wi_n (by omega), gi_wi_n (by omega), gi_wi_e]
      rfl
    · rw [eh1, gi_wi_n (by omega), gi_wi_n (by omega), gi_wi_n (by omega), gi_wi_e]
    · rw [eh1, gi_wi_n (by omega), gi_wi_n (by omega), gi_wi_e]
      rfl
    · rw [eh1, gi_wi_n (by omega), gi_wi_n (by omega), gi_wi_n (by omega), gi_wi_n (by omega), gi_wi_n (by omega), gi_wi_e]
    · rw [eh1, gi_wi_n (by omega), gi_wi_e]
      rfl
    · simp at ht
  have cc1 : ClM h1 sl [] := ⟨by rw [eh1, gi_wi_e]; rfl, fun i c hc => by simp at hc⟩
  unfold lwG at hr
  cases e : clG B T n 0 with
  | none =>
    rw [e] at hr
    cases hr
  | some r0 =>
    rw [e] at hr
    refine m_clause e (Nat.zero_le _) (Nat.le_refl _) (by show 0 < 80; omega) rc1 cc1 (fun h3 a3 p3 => ?_)
    have b3 : Ag (MX sl) h h3 := a1.trans (a3.mono (fun a k z => Or.inl z))
    simp (disch := omega) only [s189_6, true_or, or_true, or_false, false_or, or_self, Int32.reduceLT, Int32.reduceLE, Nat.add_zero, Nat.zero_add, Nat.not_lt_zero, not_false_eq_true, not_true_eq_false, and_assoc, kl_q, kl_i, kl_r, kl_n, kl_0, kl_l, cs_0, cs_i, cs_r, cs_n, cs_l, aRf_s, aRf_n, gi_wl, gi_wr, gl_wi, gl_wl, gl_wr, gr_wi, gr_wl, gr_wr, sh_wi, sh_wl, sh_wr, gl_cp, gr_cp, sh_cp, gl_rw, gr_rw, sh_rw, gi_rl, gr_rl, sh_rl, Option.toList_some, Option.toList_none, List.nil_append, List.cons_append, List.append_nil, Option.some.injEq, Prod.mk.injEq, and_true, true_and, and_self, if_true, if_false, reduceCtorEq, Nat.reduceLeDiff, Nat.reduceLT, Nat.reduceAdd, Nat.reduceEqDiff, false_and, and_false, exists_const, exists_eq_left, exists_eq_left', exists_and_left, and_assoc]
    cases r0 with
    | inl q =>
      cases hr
      have hq9 : q ≤ T := clG_pos e (by omega)
      exact m_lawE p3.1 p3.2 (by omega) (hq h3 b3)
    | inr x =>
      obtain ⟨p1, t1, t2⟩ := x
      simp only at hr
      obtain ⟨c1, c2, c3⟩ : CpR T 0 (.inr (p1, t1, t2)) := clG_pos e (by omega)
      rw [List.length_append] at c3
      exact m_lawGo f p1 _ _ h3 hr c2 (by rw [List.nil_append, List.length_append]; omega) (by rw [nwC_len]; show 4 * (0 + 1) ≤ _; omega) p3.1 p3.2 (fun h4 a4 => hq h4 (b3.trans (a4.mono (fun a k z => Or.inl z))))
end R1
