-- deps: 91.items
section I6
variable {d : Nat} {Q : Option Value → aM → Prop} {B : Nat → Nat} {T R κ : Nat} {r : IR}
theorem at_ix {a k : Nat} (z : AtZ a k) : IX R a k := Or.inl z
theorem c_items (hκ : κ < 3) (hR : 35 ≤ R) (hsR : ∀ h, OK h → sh h R = some (100, mK κ)) : ∀ (f p w : Nat) (row : Nat → Nat) (h : aM) (x y : Option Value), itG B T κ f p w row = some r → p ≤ T → w < 2 ^ mK κ → ItC h B T p R κ row → (∀ h', Ag (IX R) h h' → PostI B T R κ Q r h') → AW (d + 6) 56 6 [some (.ref 35), some (.ref (10 + κ)), some (.ref (3 * κ + 2)), some (.ref (3 * κ + 3)), some (.ref R), some (.int (nI w)), some (.int (nI (bc w))), x, y] [] h Q := by
  intro f
  induction f with
  | zero =>
    intro p w row h x y hr
    unfold itG at hr
    cases hr
  | succ f ih =>
    intro p w row h x y hr hp hw rc hq
    unfold itG at hr
    have ok := rc.1.1
    have hT := rc.1.2.1
    have hbb := rc.1.2.2.2.2
    have hs := sk_le (B := B) hp
    have m1 := mK_le (κ := κ)
    obtain ⟨bM1, bM2, bM3⟩ := bitM κ hκ w hw
    obtain ⟨k1, k2, k3, -, k5, k6⟩ := kOK ok hκ
    have e1 : gi h (10 + κ) 1 = 0 := by
      rw [rc.2.1 _ _ (by omega) (by omega)]
      have : κ = 0 ∨ κ = 1 ∨ κ = 2 := by omega
      rcases this with rfl | rfl | rfl <;> rfl
    rw [s56_6]
    simp (disch := omega) only [s56_8, s56_8n, s56_9, true_or, or_true, or_false, false_or, or_self, Int32.reduceLT, Int32.reduceLE, Nat.add_zero, Nat.zero_add, Nat.not_lt_zero, not_false_eq_true, not_true_eq_false, and_assoc, kl_q, kl_i, kl_r, kl_n, kl_0, kl_l, cs_0, cs_i, cs_r, cs_n, cs_l, aRf_s, aRf_n, gi_wl, gi_wr, gl_wi, gl_wl, gl_wr, gr_wi, gr_wl, gr_wr, sh_wi, sh_wl, sh_wr, gl_cp, gr_cp, sh_cp, gl_rw, gr_rw, sh_rw, gi_rl, gr_rl, sh_rl, Option.toList_some, Option.toList_none, List.nil_append, List.cons_append, List.append_nil, Option.some.injEq, Prod.mk.injEq, and_true, true_and, and_self, if_true, if_false, reduceCtorEq, Nat.reduceLeDiff, Nat.reduceLT, Nat.reduceAdd, Nat.reduceEqDiff, false_and, and_false, exists_const, exists_eq_left, exists_eq_left', exists_and_left, and_assoc, nltL, nltR, nleL, nleR, neqL, neqR, naL, naR, nmL, nmR, nI_ltI, nI_leI, nI_eq, nI_add, nI_mul, nI_clamp, n0l, n0r, nm1, nm1', nm1l, nm1r, nm1g, nsL, nI_m1, Nat.add_sub_cancel, vpn, vpL, nclL, le32, leLL, leLN, leNL, leNN, inA, nb0, nb1, gi_wi_n, gi_wi_e, gi_rw_n, gi_rw_e, aWi_rw, ifl, ifl_, ifle, ifle_, ifq, ifq_, ifnq, ifnq_, ifnl, ifnl_, ifnle, ifnle_, k1]
    refine c_slen (d := d + 4) k1 k2 e1 k3 ?_
    have nb : ¬ mK κ < bc w := by omega
    simp (disch := omega) only [s56_12, s56_15, s56_15n, s56_16, s56_19, true_or, or_true, or_false, false_or, or_self, Int32.reduceLT, Int32.reduceLE, Nat.add_zero, Nat.zero_add, Nat.not_lt_zero, not_false_eq_true, not_true_eq_false, and_assoc, kl_q, kl_i, kl_r, kl_n, kl_0, kl_l, cs_0, cs_i, cs_r, cs_n, cs_l, aRf_s, aRf_n, gi_wl, gi_wr, gl_wi, gl_wl, gl_wr, gr_wi, gr_wl, gr_wr, sh_wi, sh_wl, sh_wr, gl_cp, gr_cp, sh_cp, gl_rw, gr_rw, sh_rw, gi_rl, gr_rl, sh_rl, Option.toList_some, Option.toList_none, List.nil_append, List.cons_append, List.append_nil, Option.some.injEq, Prod.mk.injEq, and_true, true_and, and_self, if_true, if_false, reduceCtorEq, Nat.reduceLeDiff, Nat.reduceLT, Nat.reduceAdd, Nat.reduceEqDiff, false_and, and_false, exists_const, exists_eq_left, exists_eq_left', exists_and_left, and_assoc, nltL, nltR, nleL, nleR, neqL, neqR, naL, naR, nmL, nmR, nI_ltI, nI_leI, nI_eq, nI_add, nI_mul, nI_clamp, n0l, n0r, nm1, nm1', nm1l, nm1r, nm1g, nsL, nI_m1, Nat.add_sub_cancel, vpn, vpL, nclL, le32, leLL, leLN, leNL, leNN, inA, nb0, nb1, gi_wi_n, gi_wi_e, gi_rw_n, gi_rw_e, aWi_rw, ifl, ifl_, ifle, ifle_, ifq, ifq_, ifnq, ifnq_, ifnl, ifnl_, ifnle, ifnle_, z35 ok, z33 ok, r35_1 ok, nb]
    refine c_look rc.1 hp rc.2.2.1 (fun h1 a1 f1 f2 => ?_)
    have rc1 := rc.at hR a1 f1
    have b1 : Ag (IX R) h h1 := a1.mono (fun a k z => at_ix z)
    have ok := rc1.1.1
    simp (disch := omega) only [s56_22, s56_22n, s56_23, true_or, or_true, or_false, false_or, or_self, Int32.reduceLT, Int32.reduceLE, Nat.add_zero, Nat.zero_add, Nat.not_lt_zero, not_false_eq_true, not_true_eq_false, and_assoc, kl_q, kl_i, kl_r, kl_n, kl_0, kl_l, cs_0, cs_i, cs_r, cs_n, cs_l, aRf_s, aRf_n, gi_wl, gi_wr, gl_wi, gl_wl, gl_wr, gr_wi, gr_wl, gr_wr, sh_wi, sh_wl, sh_wr, gl_cp, gr_cp, sh_cp, gl_rw, gr_rw, sh_rw, gi_rl, gr_rl, sh_rl, Option.toList_some, Option.toList_none, List.nil_append, List.cons_append, List.append_nil, Option.some.injEq, Prod.mk.injEq, and_true, true_and, and_self, if_true, if_false, reduceCtorEq, Nat.reduceLeDiff, Nat.reduceLT, Nat.reduceAdd, Nat.reduceEqDiff, false_and, and_false, exists_const, exists_eq_left, exists_eq_left', exists_and_left, and_assoc, nltL, nltR, nleL, nleR, neqL, neqR, naL, naR, nmL, nmR, nI_ltI, nI_leI, nI_eq, nI_add, nI_mul, nI_clamp, n0l, n0r, nm1, nm1', nm1l, nm1r, nm1g, nsL, nI_m1, Nat.add_sub_cancel, vpn, vpL, nclL, le32, leLL, leLN, leNL, leNN, inA, nb0, nb1, gi_wi_n, gi_wi_e, gi_rw_n, gi_rw_e, aWi_rw, ifl, ifl_, ifle, ifle_, ifq, ifq_, ifnq, ifnq_, ifnl, ifnl_, ifnle, ifnle_]
    refine c_placeK rc1.1 rc1.2.1 hκ ?_
    cases hk : ltK κ (sgB B T (sk B T p)) with
    | none =>
      rw [hk] at hr
      cases hr
      simp (disch := omega) only [s56_26, s56_28, s56_30, s56_33, s56_35, s56_35n, s56_37, s56_38, s56_41, s56_42, true_or, or_true, or_false, false_or, or_self, Int32.reduceLT, Int32.reduceLE, Nat.add_zero, Nat.zero_add, Nat.not_lt_zero, not_false_eq_true, not_true_eq_false, and_assoc, kl_q, kl_i, kl_r, kl_n, kl_0, kl_l, cs_0, cs_i, cs_r, cs_n, cs_l, aRf_s, aRf_n, gi_wl, gi_wr, gl_wi, gl_wl, gl_wr, gr_wi, gr_wl, gr_wr, sh_wi, sh_wl, sh_wr, gl_cp, gr_cp, sh_cp, gl_rw, gr_rw, sh_rw, gi_rl, gr_rl, sh_rl, Option.toList_some, Option.toList_none, List.nil_append, List.cons_append, List.append_nil, Option.some.injEq, Prod.mk.injEq, and_true, true_and, and_self, if_true, if_false, reduceCtorEq, Nat.reduceLeDiff, Nat.reduceLT, Nat.reduceAdd, Nat.reduceEqDiff, false_and, and_false, exists_const, exists_eq_left, exists_eq_left', exists_and_left, and_assoc, nltL, nltR, nleL, nleR, neqL, neqR, naL, naR, nmL, nmR, nI_ltI, nI_leI, nI_eq, nI_add, nI_mul, nI_clamp, n0l, n0r, nm1, nm1', nm1l, nm1r, nm1g, nsL, nI_m1, Nat.add_sub_cancel, vpn, vpL, nclL, le32, leLL, leLN, leNL, leNN, inA, nb0, nb1, gi_wi_n, gi_wi_e, gi_rw_n, gi_rw_e, aWi_rw, ifl, ifl_, ifle, ifle_, ifq, ifq_, ifnq, ifnq_, ifnl, ifnl_, ifnle, ifnle_]
      exact hq h1 b1 rc1
    | some k =>
      rw [hk] at hr
      simp only at hr
      obtain ⟨hkm, hb0⟩ := ltK_lt hk
      have hpT : sk B T p < T := by
        unfold sgB at hb0
        split at hb0
        · assumption
        · omega
      have hk5 : k < 5 := by omega
      have bS := bitS w bM2 k hk5
      have bO := bitO w bM2 k hk5
      have hsr := hsR h1 ok
      have nk : ¬ mK κ ≤ k := by omega
      have lk := loH κ hκ k hk5
      obtain ⟨-, cn2, cn3⟩ := cnK κ hκ k hkm
      cases ht : w.testBit k with
      | true =>
        rw [ht, if_pos rfl] at hr
        cases hr
        rw [ht, if_pos rfl] at bS
        simp (disch := omega) only [s56_26, s56_28, s56_30, s56_33, s56_35, s56_35n, s56_37, s56_38, s56_41, s56_42, s56_43, s56_45, s56_47, s56_48, s56_49, s56_50, s56_53, s56_53n, s56_54, s56_57, s56_60, true_or, or_true, or_false, false_or, or_self, Int32.reduceLT, Int32.reduceLE, Nat.add_zero, Nat.zero_add, Nat.not_lt_zero, not_false_eq_true, not_true_eq_false, and_assoc, kl_q, kl_i, kl_r, kl_n, kl_0, kl_l, cs_0, cs_i, cs_r, cs_n, cs_l, aRf_s, aRf_n, gi_wl, gi_wr, gl_wi, gl_wl, gl_wr, gr_wi, gr_wl, gr_wr, sh_wi, sh_wl, sh_wr, gl_cp, gr_cp, sh_cp, gl_rw, gr_rw, sh_rw, gi_rl, gr_rl, sh_rl, Option.toList_some, Option.toList_none, List.nil_append, List.cons_append, List.append_nil, Option.some.injEq, Prod.mk.injEq, and_true, true_and, and_self, if_true, if_false, reduceCtorEq, Nat.reduceLeDiff, Nat.reduceLT, Nat.reduceAdd, Nat.reduceEqDiff, false_and, and_false, exists_const, exists_eq_left, exists_eq_left', exists_and_left, and_assoc, nltL, nltR, nleL, nleR, neqL, neqR, naL, naR, nmL, nmR, nI_ltI, nI_leI, nI_eq, nI_add, nI_mul, nI_clamp, n0l, n0r, nm1, nm1', nm1l, nm1r, nm1g, nsL, nI_m1, Nat.add_sub_cancel, vpn, vpL, nclL, le32, leLL, leLN, leNL, leNN, inA, nb0, nb1, gi_wi_n, gi_wi_e, gi_rw_n, gi_rw_e, aWi_rw, ifl, ifl_, ifle, ifle_, ifq, ifq_, ifnq, ifnq_, ifnl, ifnl_, ifnle, ifnle_, z35 ok, z33 ok, r35_1 ok, hsr, bS]
        refine c_wrong ok f1 (fun h2 a2 g1 g2 => ?_)
        simp (disch := omega) only [s56_26, s56_28, s56_30, s56_33, s56_35, s56_35n, s56_37, s56_38, s56_41, s56_42, s56_43, s56_45, s56_47, s56_48, s56_49, s56_50, s56_53, s56_53n, s56_54, s56_57, s56_60, true_or, or_true, or_false, false_or, or_self, Int32.reduceLT, Int32.reduceLE, Nat.add_zero, Nat.zero_add, Nat.not_lt_zero, not_false_eq_true, not_true_eq_false, and_assoc, kl_q, kl_i, kl_r, kl_n, kl_0, kl_l, cs_0, cs_i, cs_r, cs_n, cs_l, aRf_s, aRf_n, gi_wl, gi_wr, gl_wi, gl_wl, gl_wr, gr_wi, gr_wl, gr_wr, sh_wi, sh_wl, sh_wr, gl_cp, gr_cp, sh_cp, gl_rw, gr_rw, sh_rw, gi_rl, gr_rl, sh_rl, Option.toList_some, Option.toList_none, List.nil_append, List.cons_append, List.append_nil, Option.some.injEq, Prod.mk.injEq, and_true, true_and, and_self, if_true, if_false, reduceCtorEq, Nat.reduceLeDiff, Nat.reduceLT, Nat.reduceAdd, Nat.reduceEqDiff, false_and, and_false, exists_const, exists_eq_left, exists_eq_left', exists_and_left, and_assoc, nb0, nb1]
        exact hq h2 (b1.trans (a2.mono (fun a k z => at_ix z))) g2
      | false =>
        rw [ht, if_neg (by decide)] at hr
        rw [ht, if_neg (by decide)] at bS
        have bC := bitC w bM2 k hk5 ht
        obtain ⟨bM4, -⟩ := bM3 k hkm
        simp (disch := omega) only [s56_26, s56_28, s56_30, s56_33, s56_35, s56_35n, s56_37, s56_38, s56_41, s56_42, s56_43, s56_45, s56_47, s56_48, s56_49, s56_50, s56_53, s56_53n, s56_54, s56_57, s56_60, s56_61, s56_63, s56_64, s56_66, s56_67, s56_68, s56_70, s56_70n, s56_71, s56_74, true_or, or_true, or_false, false_or, or_self, Int32.reduceLT, Int32.reduceLE, Nat.add_zero, Nat.zero_add, Nat.not_lt_zero, not_false_eq_true, not_true_eq_false, and_assoc, kl_q, kl_i, kl_r, kl_n, kl_0, kl_l, cs_0, cs_i, cs_r, cs_n, cs_l, aRf_s, aRf_n, gi_wl, gi_wr, gl_wi, gl_wl, gl_wr, gr_wi, gr_wl, gr_wr, sh_wi, sh_wl, sh_wr, gl_cp, gr_cp, sh_cp, gl_rw, gr_rw, sh_rw, gi_rl, gr_rl, sh_rl, Option.toList_some, Option.toList_none, List.nil_append, List.cons_append, List.append_nil, Option.some.injEq, Prod.mk.injEq, and_true, true_and, and_self, if_true, if_false, reduceCtorEq, Nat.reduceLeDiff, Nat.reduceLT, Nat.reduceAdd, Nat.reduceEqDiff, false_and, and_false, exists_const, exists_eq_left, exists_eq_left', exists_and_left, and_assoc, nltL, nltR, nleL, nleR, neqL, neqR, naL, naR, nmL, nmR, nI_ltI, nI_leI, nI_eq, nI_add, nI_mul, nI_clamp, n0l, n0r, nm1, nm1', nm1l, nm1r, nm1g, nsL, nI_m1, Nat.add_sub_cancel, vpn, vpL, nclL, le32, leLL, leLN, leNL, leNN, inA, nb0, nb1, gi_wi_n, gi_wi_e, gi_rw_n, gi_rw_e, aWi_rw, ifl, ifl_, ifle, ifle_, ifq, ifq_, ifnq, ifnq_, ifnl, ifnl_, ifnle, ifnle_, z35 ok, z33 ok, r35_1 ok, hsr, bS, bO]
        refine c_passT rc1.1 hpT f1 (fun h2 a2 g1 g2 => ?_)
        have rc2 := rc1.at hR a2 g1
        have b2 : Ag (IX R) h h2 := b1.trans (a2.mono (fun a k z => at_ix z))
        have ok := rc2.1.1
        have hs2 := sk_le (B := B) (T := T) (p := sk B T p + 1) (by omega)
        simp (disch := omega) only [s56_77, s56_77n, s56_78, s56_81, s56_82, true_or, or_true, or_false, false_or, or_self, Int32.reduceLT, Int32.reduceLE, Nat.add_zero, Nat.zero_add, Nat.not_lt_zero, not_false_eq_true, not_true_eq_false, and_assoc, kl_q, kl_i, kl_r, kl_n, kl_0, kl_l, cs_0, cs_i, cs_r, cs_n, cs_l, aRf_s, aRf_n, gi_wl, gi_wr, gl_wi, gl_wl, gl_wr, gr_wi, gr_wl, gr_wr, sh_wi, sh_wl, sh_wr, gl_cp, gr_cp, sh_cp, gl_rw, gr_rw, sh_rw, gi_rl, gr_rl, sh_rl, Option.toList_some, Option.toList_none, List.nil_append, List.cons_append, List.append_nil, Option.some.injEq, Prod.mk.injEq, and_true, true_and, and_self, if_true, if_false, reduceCtorEq, Nat.reduceLeDiff, Nat.reduceLT, Nat.reduceAdd, Nat.reduceEqDiff, false_and, and_false, exists_const, exists_eq_left, exists_eq_left', exists_and_left, and_assoc, nltL, nltR, nleL, nleR, neqL, neqR, naL, naR, nmL, nmR, nI_ltI, nI_leI, nI_eq, nI_add, nI_mul, nI_clamp, n0l, n0r, nm1, nm1', nm1l, nm1r, nm1g, nsL, nI_m1, Nat.add_sub_cancel, vpn, vpL, nclL, le32, leLL, leLN, leNL, leNN, inA, nb0, nb1, gi_wi_n, gi_wi_e, gi_rw_n, gi_rw_e, aWi_rw, ifl, ifl_, ifle, ifle_, ifq, ifq_, ifnq, ifnq_, ifnl, ifnl_, ifnle, ifnle_, z35 ok, z33 ok, r35_1 ok]
        obtain ⟨s2, es2⟩ : ∃ s2, s2 = sk B T (sk B T p + 1) := ⟨_, rfl⟩
        rw [← es2] at hr hs2
        refine c_num (n := 2) rc2.1 (by omega) g1 (by omega) (by omega) (fun c0 h3 a3 f3 => ?_) (fun c c1 c2 c3 c4 h3 a3 f3 f4 => ?_) (fun c3 h3 a3 f3 => ?_)
        · rw [← es2] at c0 f3
          have e : nmG B T (loK κ k) (hiK κ k) s2 = .inl s2 := if_pos c0
          rw [e] at hr
          cases hr
          simp (disch := omega) only [s56_85, s56_87, s56_89, s56_90, s56_93, s56_94, true_or, or_true, or_false, false_or, or_self, Int32.reduceLT, Int32.reduceLE, Nat.add_zero, Nat.zero_add, Nat.not_lt_zero, not_false_eq_true, not_true_eq_false, and_assoc, kl_q, kl_i, kl_r, kl_n, kl_0, kl_l, cs_0, cs_i, cs_r, cs_n, cs_l, aRf_s, aRf_n, gi_wl, gi_wr, gl_wi, gl_wl, gl_wr, gr_wi, gr_wl, gr_wr, sh_wi, sh_wl, sh_wr, gl_cp, gr_cp, sh_cp, gl_rw, gr_rw, sh_rw, gi_rl, gr_rl, sh_rl, Option.toList_some, Option.toList_none, List.nil_append, List.cons_append, List.append_nil, Option.some.injEq, Prod.mk.injEq, and_true, true_and, and_self, if_true, if_false, reduceCtorEq, Nat.reduceLeDiff, Nat.reduceLT, Nat.reduceAdd, Nat.reduceEqDiff, false_and, and_false, exists_const, exists_eq_left, exists_eq_left', exists_and_left, and_assoc, nltL, nltR, nleL, nleR, neqL, neqR, naL, naR, nmL, nmR, nI_ltI, nI_leI, nI_eq, nI_add, nI_mul, nI_clamp, n0l, n0r, nm1, nm1', nm1l, nm1r, nm1g, nsL, nI_m1, Nat.add_sub_cancel, vpn, vpL, nclL, le32, leLL, leLN, leNL, leNN, inA, nb0, nb1, gi_wi_n, gi_wi_e, gi_rw_n, gi_rw_e, aWi_rw, ifl, ifl_, ifle, ifle_, ifq, ifq_, ifnq, ifnq_, ifnl, ifnl_, ifnle, ifnle_]
          exact hq h3 (b2.trans (a3.mono (fun a k z => at_ix z))) f3
        · rw [← es2] at c1 c4 f3 f4 ⊢
          have e : nmG B T (loK κ k) (hiK κ k) s2 = if loK κ k ≤ vlD B s2 c ∧ vlD B s2 c ≤ hiK κ k then .inr (s2 + c, vlD B s2 c) else .inl (s2 + c - 1) := by
            unfold nmG
            rw [c1, if_neg (by omega), if_neg (by omega)]
          rw [e] at hr
          have rc3 := rc2.at hR a3 f3
          have b3 : Ag (IX R) h h3 := b2.trans (a3.mono (fun a k z => at_ix z))
          have ok := rc3.1.1
          obtain ⟨-, -, -, -, k5, k6⟩ := kOK ok hκ
          have hsr := hsR h3 ok
          have e5 : gi h3 (3 * κ + 2) k = nI (loK κ k) := by rw [rc3.2.1 _ _ (by omega) (by omega), cn2]
          have e6 : gi h3 (3 * κ + 3) k = nI (hiK κ k) := by rw [rc3.2.1 _ _ (by omega) (by omega), cn3]
          by_cases hlo : loK κ k ≤ vlD B s2 c
          · by_cases hhi : vlD B s2 c ≤ hiK κ k
            · rw [if_pos ⟨hlo, hhi⟩] at hr
              simp only at hr
              have n1 : ¬ vlD B s2 c < loK κ k := by omega
              simp (disch := omega) only [s56_85, s56_87, s56_89, s56_90, s56_93, s56_94, s56_95, s56_97, s56_97n, s56_98, s56_100, s56_101, s56_104, s56_106, s56_106n, s56_107, s56_109, s56_110, s56_113, s56_113n, s56_114, s56_117, s56_120, s56_121, s56_121n, s56_123, s56_125, s56_127, s56_128, s56_131, true_or, or_true, or_false, false_or, or_self, Int32.reduceLT, Int32.reduceLE, Nat.add_zero, Nat.zero_add, Nat.not_lt_zero, not_false_eq_true, not_true_eq_false, and_assoc, kl_q, kl_i, kl_r, kl_n, kl_0, kl_l, cs_0, cs_i, cs_r, cs_n, cs_l, aRf_s, aRf_n, gi_wl, gi_wr, gl_wi, gl_wl, gl_wr, gr_wi, gr_wl, gr_wr, sh_wi, sh_wl, sh_wr, gl_cp, gr_cp, sh_cp, gl_rw, gr_rw, sh_rw, gi_rl, gr_rl, sh_rl, Option.toList_some, Option.toList_none, List.nil_append, List.cons_append, List.append_nil, Option.some.injEq, Prod.mk.injEq, and_true, true_and, and_self, if_true, if_false, reduceCtorEq, Nat.reduceLeDiff, Nat.reduceLT, Nat.reduceAdd, Nat.reduceEqDiff, false_and, and_false, exists_const, exists_eq_left, exists_eq_left', exists_and_left, and_assoc, nltL, nltR, nleL, nleR, neqL, neqR, naL, naR, nmL, nmR, nI_ltI, nI_leI, nI_eq, nI_add, nI_mul, nI_clamp, n0l, n0r, nm1, nm1', nm1l, nm1r, nm1g, nsL, nI_m1, Nat.add_sub_cancel, vpn, vpL, nclL, le32, leLL, leLN, leNL, leNN, inA, nb0, nb1, gi_wi_n, gi_wi_e, gi_rw_n, gi_rw_e, aWi_rw, ifl, ifl_, ifle, ifle_, ifq, ifq_, ifnq, ifnq_, ifnl, ifnl_, ifnle, ifnle_, k5, k6, hkm, e5, e6, n1, hhi, hsr]
              have rc4 : ItC (aWi h3 R k (nI (vlD B s2 c))) B T (s2 + c) R κ (upN row k (vlD B s2 c)) := by
                obtain ⟨r1, r2, r3, r4⟩ := rc3
                have aw : Ag (fun a _ => a = R) h3 (aWi h3 R k (nI (vlD B s2 c))) := (Ag.refl ok).wi rfl
                refine ⟨r1.ag aw (by omega) (by omega), fun x j h1 h2 => ?_, ?_, fun j hj => ?_⟩
                · rw [gi_wi_n (by omega)]
                  exact r2 x j h1 h2
                · rw [gi_wi_n (by omega), r3]
                · unfold upN
                  by_cases hjk : j = k
                  · subst hjk
                    rw [gi_wi_e, if_pos rfl]
                  · rw [gi_wi_n (by omega), if_neg hjk]
                    exact r4 j hj
              have t := ih (s2 + c) (w ||| 2 ^ k) _ _ (some (.int (nI k))) (some (.int (nI (vlD B s2 c)))) hr f4 bM4 rc4 (fun h5 a5 => hq h5 ((b3.trans ((Ag.refl ok).wi (Or.inr rfl))).trans a5))
              rw [bC] at t
              exact ⟨by omega, t⟩
            · rw [if_neg (fun z => hhi z.2)] at hr
              cases hr
              have n1 : ¬ vlD B s2 c < loK κ k := by omega
              simp (disch := omega) only [s56_85, s56_87, s56_89, s56_90, s56_93, s56_94, s56_95, s56_97, s56_97n, s56_98, s56_100, s56_101, s56_104, s56_106, s56_106n, s56_107, s56_109, s56_110, s56_113, s56_113n, s56_114, s56_117, s56_120, true_or, or_true, or_false, false_or, or_self, Int32.reduceLT, Int32.reduceLE, Nat.add_zero, Nat.zero_add, Nat.not_lt_zero, not_false_eq_true, not_true_eq_false, and_assoc, kl_q, kl_i, kl_r, kl_n, kl_0, kl_l, cs_0, cs_i, cs_r, cs_n, cs_l, aRf_s, aRf_n, gi_wl, gi_wr, gl_wi, gl_wl, gl_wr, gr_wi, gr_wl, gr_wr, sh_wi, sh_wl, sh_wr, gl_cp, gr_cp, sh_cp, gl_rw, gr_rw, sh_rw, gi_rl, gr_rl, sh_rl, Option.toList_some, Option.toList_none, List.nil_append, List.cons_append, List.append_nil, Option.some.injEq, Prod.mk.injEq, and_true, true_and, and_self, if_true, if_false, reduceCtorEq, Nat.reduceLeDiff, Nat.reduceLT, Nat.reduceAdd, Nat.reduceEqDiff, false_and, and_false, exists_const, exists_eq_left, exists_eq_left', exists_and_left, and_assoc, nltL, nltR, nleL, nleR, neqL, neqR, naL, naR, nmL, nmR, nI_ltI, nI_leI, nI_eq, nI_add, nI_mul, nI_clamp, n0l, n0r, nm1, nm1', nm1l, nm1r, nm1g, nsL, nI_m1, Nat.add_sub_cancel, vpn, vpL, nclL, le32, leLL, leLN, leNL, leNN, inA, nb0, nb1, gi_wi_n, gi_wi_e, gi_rw_n, gi_rw_e, aWi_rw, ifl, ifl_, ifle, ifle_, ifq, ifq_, ifnq, ifnq_, ifnl, ifnl_, ifnle, ifnle_, z35 ok, z33 ok, r35_1 ok, k5, k6, hkm, e5, e6, n1, hhi]
              refine c_wrongN ok (by omega) f3 (fun h4 a4 g4 => ?_)
              simp (disch := omega) only [s56_85, s56_87, s56_89, s56_90, s56_93, s56_94, s56_95, s56_97, s56_97n, s56_98, s56_100, s56_101, s56_104, s56_106, s56_106n, s56_107, s56_109, s56_110, s56_113, s56_113n, s56_114, s56_117, s56_120, true_or, or_true, or_false, false_or, or_self, Int32.reduceLT, Int32.reduceLE, Nat.add_zero, Nat.zero_add, Nat.not_lt_zero, not_false_eq_true, not_true_eq_false, and_assoc, kl_q, kl_i, kl_r, kl_n, kl_0, kl_l, cs_0, cs_i, cs_r, cs_n, cs_l, aRf_s, aRf_n, gi_wl, gi_wr, gl_wi, gl_wl, gl_wr, gr_wi, gr_wl, gr_wr, sh_wi, sh_wl, sh_wr, gl_cp, gr_cp, sh_cp, gl_rw, gr_rw, sh_rw, gi_rl, gr_rl, sh_rl, Option.toList_some, Option.toList_none, List.nil_append, List.cons_append, List.append_nil, Option.some.injEq, Prod.mk.injEq, and_true, true_and, and_self, if_true, if_false, reduceCtorEq, Nat.reduceLeDiff, Nat.reduceLT, Nat.reduceAdd, Nat.reduceEqDiff, false_and, and_false, exists_const, exists_eq_left, exists_eq_left', exists_and_left, and_assoc, nb0, nb1]
              exact hq h4 (b3.trans (a4.mono (fun a k z => at_ix z))) g4
          · rw [if_neg (fun z => hlo z.1)] at hr
            cases hr
            have n1 : vlD B s2 c < loK κ k := by omega
            simp (disch := omega) only [s56_85, s56_87, s56_89, s56_90, s56_93, s56_94, s56_95, s56_97, s56_97n, s56_98, s56_100, s56_101, s56_104, s56_106, s56_106n, s56_107, s56_109, s56_110, s56_113, s56_113n, s56_114, s56_117, s56_120, true_or, or_true, or_false, false_or, or_self, Int32.reduceLT, Int32.reduceLE, Nat.add_zero, Nat.zero_add, Nat.not_lt_zero, not_false_eq_true, not_true_eq_false, and_assoc, kl_q, kl_i, kl_r, kl_n, kl_0, kl_l, cs_0, cs_i, cs_r, cs_n, cs_l, aRf_s, aRf_n, gi_wl, gi_wr, gl_wi, gl_wl, gl_wr, gr_wi, gr_wl, gr_wr, sh_wi, sh_wl, sh_wr, gl_cp, gr_cp, sh_cp, gl_rw, gr_rw, sh_rw, gi_rl, gr_rl, sh_rl, Option.toList_some, Option.toList_none, List.nil_append, List.cons_append, List.append_nil, Option.some.injEq, Prod.mk.injEq, and_true, true_and, and_self, if_true, if_false, reduceCtorEq, Nat.reduceLeDiff, Nat.reduceLT, Nat.reduceAdd, Nat.reduceEqDiff, false_and, and_false, exists_const, exists_eq_left, exists_eq_left', exists_and_left, and_assoc, nltL, nltR, nleL, nleR, neqL, neqR, naL, naR, nmL, nmR, nI_ltI, nI_leI, nI_eq, nI_add, nI_mul, nI_clamp, n0l, n0r, nm1, nm1', nm1l, nm1r, nm1g, nsL, nI_m1, Nat.add_sub_cancel, vpn, vpL, nclL, le32, leLL, leLN, leNL, leNN, inA, nb0, nb1, gi_wi_n, gi_wi_e, gi_rw_n, gi_rw_e, aWi_rw, ifl, ifl_, ifle, ifle_, ifq, ifq_, ifnq, ifnq_, ifnl, ifnl_, ifnle, ifnle_, z35 ok, z33 ok, r35_1 ok, k5, k6, hkm, e5, e6, n1]
            refine c_wrongN ok (by omega) f3 (fun h4 a4 g4 => ?_)
            simp (disch := omega) only [s56_85, s56_87, s56_89, s56_90, s56_93, s56_94, s56_95, s56_97, s56_97n, s56_98, s56_100, s56_101, s56_104, s56_106, s56_106n, s56_107, s56_109, s56_110, s56_113, s56_113n, s56_114, s56_117, s56_120, true_or, or_true, or_false, false_or, or_self, Int32.reduceLT, Int32.reduceLE, Nat.add_zero, Nat.zero_add, Nat.not_lt_zero, not_false_eq_true, not_true_eq_false, and_assoc, kl_q, kl_i, kl_r, kl_n, kl_0, kl_l, cs_0, cs_i, cs_r, cs_n, cs_l, aRf_s, aRf_n, gi_wl, gi_wr, gl_wi, gl_wl, gl_wr, gr_wi, gr_wl, gr_wr, sh_wi, sh_wl, sh_wr, gl_cp, gr_cp, sh_cp, gl_rw, gr_rw, sh_rw, gi_rl, gr_rl, sh_rl, Option.toList_some, Option.toList_none, List.nil_append, List.cons_append, List.append_nil, Option.some.injEq, Prod.mk.injEq, and_true, true_and, and_self, if_true, if_false, reduceCtorEq, Nat.reduceLeDiff, Nat.reduceLT, Nat.reduceAdd, Nat.reduceEqDiff, false_and, and_false, exists_const, exists_eq_left, exists_eq_left', exists_and_left, and_assoc, nb0, nb1]
            exact hq h4 (b3.trans (a4.mono (fun a k z => at_ix z))) g4
        · rw [← es2] at c3 f3
          have e : nmG B T (loK κ k) (hiK κ k) s2 = .inl (s2 + 2) := by
            unfold nmG
            have c3' : dgc B T s2 3 = 3 := c3
            rw [c3', if_neg (by omega), if_pos rfl]
          rw [e] at hr
          cases hr
          simp (disch := omega) only [s56_85, s56_87, s56_89, s56_90, s56_93, s56_94, true_or, or_true, or_false, false_or, or_self, Int32.reduceLT, Int32.reduceLE, Nat.add_zero, Nat.zero_add, Nat.not_lt_zero, not_false_eq_true, not_true_eq_false, and_assoc, kl_q, kl_i, kl_r, kl_n, kl_0, kl_l, cs_0, cs_i, cs_r, cs_n, cs_l, aRf_s, aRf_n, gi_wl, gi_wr, gl_wi, gl_wl, gl_wr, gr_wi, gr_wl, gr_wr, sh_wi, sh_wl, sh_wr, gl_cp, gr_cp, sh_cp, gl_rw, gr_rw, sh_rw, gi_rl, gr_rl, sh_rl, Option.toList_some, Option.toList_none, List.nil_append, List.cons_append, List.append_nil, Option.some.injEq, Prod.mk.injEq, and_true, true_and, and_self, if_true, if_false, reduceCtorEq, Nat.reduceLeDiff, Nat.reduceLT, Nat.reduceAdd, Nat.reduceEqDiff, false_and, and_false, exists_const, exists_eq_left, exists_eq_left', exists_and_left, and_assoc, nltL, nltR, nleL, nleR, neqL, neqR, naL, naR, nmL, nmR, nI_ltI, nI_leI, nI_eq, nI_add, nI_mul, nI_clamp, n0l, n0r, nm1, nm1', nm1l, nm1r, nm1g, nsL, nI_m1, Nat.add_sub_cancel, vpn, vpL, nclL, le32, leLL, leLN, leNL, leNN, inA, nb0, nb1, gi_wi_n, gi_wi_e, gi_rw_n, gi_rw_e, aWi_rw, ifl, ifl_, ifle, ifle_, ifq, ifq_, ifnq, ifnq_, ifnl, ifnl_, ifnle, ifnle_]
          exact hq h3 (b2.trans (a3.mono (fun a k z => at_ix z))) f3
end I6
