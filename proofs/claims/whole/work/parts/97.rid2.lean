-- deps: 96.rid
section D2
variable {d : Nat} {h : aM} {Q : Option Value → aM → Prop} {B : Nat → Nat} {T p : Nat} {s : RS} {r : Nat ⊕ (Nat × RS)}
theorem c_itemsS {R κ : Nat} {ri : IR} (hκ : κ < 3) (hR : 35 ≤ R) (hsR : ∀ h, OK h → sh h R = some (100, mK κ)) (hi : itG B T κ (mK κ + 1) p 0 (usK κ) = some ri) (hp : p ≤ T) (rc : ItC h B T p R κ (usK κ)) (hq : ∀ h', Ag (IX R) h h' → PostI B T R κ Q ri h') : AW (d + 6) 56 0 [some (.ref 35), some (.ref (10 + κ)), some (.ref (3 * κ + 2)), some (.ref (3 * κ + 3)), some (.ref R), none, none, none, none] [] h Q := by
  simp (disch := omega) only [s56_0, s56_1, s56_3, s56_4, true_or, or_true, or_false, false_or, or_self, Int32.reduceLT, Int32.reduceLE, Nat.add_zero, Nat.zero_add, Nat.not_lt_zero, not_false_eq_true, not_true_eq_false, and_assoc, kl_q, kl_i, kl_r, kl_n, kl_0, kl_l, cs_0, cs_i, cs_r, cs_n, cs_l, aRf_s, aRf_n, gi_wl, gi_wr, gl_wi, gl_wl, gl_wr, gr_wi, gr_wl, gr_wr, sh_wi, sh_wl, sh_wr, gl_cp, gr_cp, sh_cp, gl_rw, gr_rw, sh_rw, gi_rl, gr_rl, sh_rl, Option.toList_some, Option.toList_none, List.nil_append, List.cons_append, List.append_nil, Option.some.injEq, Prod.mk.injEq, and_true, true_and, and_self, if_true, if_false, reduceCtorEq, Nat.reduceLeDiff, Nat.reduceLT, Nat.reduceAdd, Nat.reduceEqDiff, false_and, and_false, exists_const, exists_eq_left, exists_eq_left', exists_and_left, and_assoc, nltL, nltR, nleL, nleR, neqL, neqR, naL, naR, nmL, nmR, nI_ltI, nI_leI, nI_eq, nI_add, nI_mul, nI_clamp, n0l, n0r, nm1, nm1', nm1l, nm1r, nm1g, nsL, nI_m1, Nat.add_sub_cancel, vpn, vpL, nclL, le32, leLL, leLN, leNL, leNN, inA, nb0, nb1, gi_wi_n, gi_wi_e, gi_rw_n, gi_rw_e, aWi_rw, ifl, ifl_, ifle, ifle_, ifq, ifq_, ifnq, ifnq_, ifnl, ifnl_, ifnle, ifnle_]
  have t := c_items (d := d) (Q := Q) hκ hR hsR (mK κ + 1) p 0 (usK κ) h none none hi hp (Nat.two_pow_pos _) rc hq
  rw [show bc 0 = 0 from rfl] at t
  exact t
theorem ix_rx {R a k : Nat} (hR : 35 ≤ R ∧ R ≤ 50) (z : IX R a k) : RX a k := by
  unfold IX at z
  unfold RX
  rcases z with z | z
  · exact Or.inl z
  · exact Or.inr (by omega)
theorem c_rclause (so : RsOk s) (hr : rcG B T p s = some r) (hp : p ≤ T) (rc : RcC h B T p s) (hq : ∀ h', Ag RX h h' → PostR B T Q r h') : AW (d + 7) 55 0 [some (.ref 35), none, none] [] h Q := by
  have ok := rc.1.1
  have hT := rc.1.2.1
  have hbb := rc.1.2.2.2.2
  have hs := sk_le (B := B) hp
  simp (disch := omega) only [s55_0, s55_1, s55_4, true_or, or_true, or_false, false_or, or_self, Int32.reduceLT, Int32.reduceLE, Nat.add_zero, Nat.zero_add, Nat.not_lt_zero, not_false_eq_true, not_true_eq_false, and_assoc, kl_q, kl_i, kl_r, kl_n, kl_0, kl_l, cs_0, cs_i, cs_r, cs_n, cs_l, aRf_s, aRf_n, gi_wl, gi_wr, gl_wi, gl_wl, gl_wr, gr_wi, gr_wl, gr_wr, sh_wi, sh_wl, sh_wr, gl_cp, gr_cp, sh_cp, gl_rw, gr_rw, sh_rw, gi_rl, gr_rl, sh_rl, Option.toList_some, Option.toList_none, List.nil_append, List.cons_append, List.append_nil, Option.some.injEq, Prod.mk.injEq, and_true, true_and, and_self, if_true, if_false, reduceCtorEq, Nat.reduceLeDiff, Nat.reduceLT, Nat.reduceAdd, Nat.reduceEqDiff, false_and, and_false, exists_const, exists_eq_left, exists_eq_left', exists_and_left, and_assoc, nltL, nltR, nleL, nleR, neqL, neqR, naL, naR, nmL, nmR, nI_ltI, nI_leI, nI_eq, nI_add, nI_mul, nI_clamp, n0l, n0r, nm1, nm1', nm1l, nm1r, nm1g, nsL, nI_m1, Nat.add_sub_cancel, vpn, vpL, nclL, le32, leLL, leLN, leNL, leNN, inA, nb0, nb1, gi_wi_n, gi_wi_e, gi_rw_n, gi_rw_e, aWi_rw, ifl, ifl_, ifle, ifle_, ifq, ifq_, ifnq, ifnq_, ifnl, ifnl_, ifnle, ifnle_, z35 ok, z33 ok, r35_1 ok]
  refine c_look rc.1 hp rc.2.2.1 (fun h1 a1 f1 f2 => ?_)
  have rc1 := rc.at so a1 f1
  have b1 : Ag RX h h1 := a1.mono (fun a k z => at_rx z)
  have ok := rc1.1.1
  obtain ⟨r1, r2, r3, r4, r5, r6, r7, r8, r9⟩ := id rc1
  obtain ⟨o1, o2, o3, o4, o5, o6⟩ := so
  have l115 := lk_sg (q := sk B T p) hbb (b := 115) (by omega) (by omega)
  rw [show nI 115 = (115 : Int32) from rfl] at l115
  have l100 := lk_sg (q := sk B T p) hbb (b := 100) (by omega) (by omega)
  rw [show nI 100 = (100 : Int32) from rfl] at l100
  have l102 := lk_sg (q := sk B T p) hbb (b := 102) (by omega) (by omega)
  rw [show nI 102 = (102 : Int32) from rfl] at l102
  unfold rcG at hr
  by_cases c1 : sgB B T (sk B T p) = 115 ∧ s.1 = false
  · rw [if_pos c1] at hr
    have hpT := sg_lt (by omega) c1.1
    have f115 := l115.mpr c1.1
    have e35 : gi h1 35 2 = 0 := by rw [r4, c1.2]; rfl
    have e37 := o3 c1.2
    simp (disch := omega) only [s55_7, s55_8, s55_9, s55_11, s55_14, s55_15, s55_18, s55_21, s55_22, s55_23, s55_26, s55_27, s55_30, true_or, or_true, or_false, false_or, or_self, Int32.reduceLT, Int32.reduceLE, Nat.add_zero, Nat.zero_add, Nat.not_lt_zero, not_false_eq_true, not_true_eq_false, and_assoc, kl_q, kl_i, kl_r, kl_n, kl_0, kl_l, cs_0, cs_i, cs_r, cs_n, cs_l, aRf_s, aRf_n, gi_wl, gi_wr, gl_wi, gl_wl, gl_wr, gr_wi, gr_wl, gr_wr, sh_wi, sh_wl, sh_wr, gl_cp, gr_cp, sh_cp, gl_rw, gr_rw, sh_rw, gi_rl, gr_rl, sh_rl, Option.toList_some, Option.toList_none, List.nil_append, List.cons_append, List.append_nil, Option.some.injEq, Prod.mk.injEq, and_true, true_and, and_self, if_true, if_false, reduceCtorEq, Nat.reduceLeDiff, Nat.reduceLT, Nat.reduceAdd, Nat.reduceEqDiff, false_and, and_false, exists_const, exists_eq_left, exists_eq_left', exists_and_left, and_assoc, nltL, nltR, nleL, nleR, neqL, neqR, naL, naR, nmL, nmR, nI_ltI, nI_leI, nI_eq, nI_add, nI_mul, nI_clamp, n0l, n0r, nm1, nm1', nm1l, nm1r, nm1g, nsL, nI_m1, Nat.add_sub_cancel, vpn, vpL, nclL, le32, leLL, leLN, leNL, leNN, inA, nb0, nb1, gi_wi_n, gi_wi_e, gi_rw_n, gi_rw_e, aWi_rw, ifl, ifl_, ifle, ifle_, ifq, ifq_, ifnq, ifnq_, ifnl, ifnl_, ifnle, ifnle_, z35 ok, z33 ok, r35_1 ok, f115, e35]
    obtain ⟨h2, eh2⟩ : ∃ h2, h2 = aWi h1 35 2 1 := ⟨_, rfl⟩
    rw [← eh2]
    have a2 : Ag (fun a k => a = 35 ∧ k = 2) h1 h2 := by
      rw [eh2]
      exact (Ag.refl ok).wi ⟨rfl, rfl⟩
    have tc2 := r1.ag a2 (by omega) (by omega)
    refine c_passT tc2 hpT (show gi h2 33 2 = _ by rw [a2.2 _ _ (by omega), r3]) (fun h3 a3 g1 g2 => ?_)
    have tc3 := tc2.ag a3 (by unfold AtZ; omega) (by unfold AtZ; omega)
    have b3 : Ag RX h h3 := (b1.trans (a2.mono (fun a k z => Or.inr (by omega)))).trans (a3.mono (fun a k z => at_rx z))
    have ok := tc3.1
    have t3 : ∀ a k, 34 ≤ a → ¬ (a = 35 ∧ k = 2) → gi h3 a k = gi h1 a k := fun a k z1 z2 => by rw [a3.2 _ _ (by unfold AtZ; omega), a2.2 _ _ z2]
    have ic3 : ICon h3 := fun x j q1 q2 => by
      rw [a3.2 _ _ (by unfold AtZ; omega), a2.2 _ _ (by omega)]
      exact r2 x j q1 q2
    simp (disch := omega) only [s55_33, s55_34, s55_36, s55_39, s55_42, s55_43, s55_46, s55_49, true_or, or_true, or_false, false_or, or_self, Int32.reduceLT, Int32.reduceLE, Nat.add_zero, Nat.zero_add, Nat.not_lt_zero, not_false_eq_true, not_true_eq_false, and_assoc, kl_q, kl_i, kl_r, kl_n, kl_0, kl_l, cs_0, cs_i, cs_r, cs_n, cs_l, aRf_s, aRf_n, gi_wl, gi_wr, gl_wi, gl_wl, gl_wr, gr_wi, gr_wl, gr_wr, sh_wi, sh_wl, sh_wr, gl_cp, gr_cp, sh_cp, gl_rw, gr_rw, sh_rw, gi_rl, gr_rl, sh_rl, Option.toList_some, Option.toList_none, List.nil_append, List.cons_append, List.append_nil, Option.some.injEq, Prod.mk.injEq, and_true, true_and, and_self, if_true, if_false, reduceCtorEq, Nat.reduceLeDiff, Nat.reduceLT, Nat.reduceAdd, Nat.reduceEqDiff, false_and, and_false, exists_const, exists_eq_left, exists_eq_left', exists_and_left, and_assoc, nltL, nltR, nleL, nleR, neqL, neqR, naL, naR, nmL, nmR, nI_ltI, nI_leI, nI_eq, nI_add, nI_mul, nI_clamp, n0l, n0r, nm1, nm1', nm1l, nm1r, nm1g, nsL, nI_m1, Nat.add_sub_cancel, vpn, vpL, nclL, le32, leLL, leLN, leNL, leNN, inA, nb0, nb1, gi_wi_n, gi_wi_e, gi_rw_n, gi_rw_e, aWi_rw, ifl, ifl_, ifle, ifle_, ifq, ifq_, ifnq, ifnq_, ifnl, ifnl_, ifnle, ifnle_, z35 ok, z36 ok, r35_0 ok, r36_0 ok]
    cases hi : itG B T 0 (mK 0 + 1) (sk B T p + 1) 0 (usK 0) with
    | none =>
      rw [hi] at hr
      cases hr
    | some ri =>
      rw [hi] at hr
      refine c_itemsS (κ := 0) (R := 37) (by omega) (by omega) (fun h ok => z37 ok) hi (by omega) ⟨tc3, ic3, g1, fun k hk => ?_⟩ (fun h4 a4 => ?_)
      · rw [t3 _ _ (by omega) (by omega), r7 k hk, e37]
      · have b4 : Ag RX h h4 := b3.trans (a4.mono (fun a k z => ix_rx (by omega) z))
        cases ri with
        | inl q =>
          cases hr
          intro f
          simp (disch := omega) only [s55_49, s55_52, true_or, or_true, or_false, false_or, or_self, Int32.reduceLT, Int32.reduceLE, Nat.add_zero, Nat.zero_add, Nat.not_lt_zero, not_false_eq_true, not_true_eq_false, and_assoc, kl_q, kl_i, kl_r, kl_n, kl_0, kl_l, cs_0, cs_i, cs_r, cs_n, cs_l, aRf_s, aRf_n, gi_wl, gi_wr, gl_wi, gl_wl, gl_wr, gr_wi, gr_wl, gr_wr, sh_wi, sh_wl, sh_wr, gl_cp, gr_cp, sh_cp, gl_rw, gr_rw, sh_rw, gi_rl, gr_rl, sh_rl, Option.toList_some, Option.toList_none, List.nil_append, List.cons_append, List.append_nil, Option.some.injEq, Prod.mk.injEq, and_true, true_and, and_self, if_true, if_false, reduceCtorEq, Nat.reduceLeDiff, Nat.reduceLT, Nat.reduceAdd, Nat.reduceEqDiff, false_and, and_false, exists_const, exists_eq_left, exists_eq_left', exists_and_left, and_assoc, nb0, nb1]
          exact hq h4 b4 f
        | inr x =>
          obtain ⟨p', row⟩ := x
          cases hr
          intro ic
          simp (disch := omega) only [s55_49, s55_52, true_or, or_true, or_false, false_or, or_self, Int32.reduceLT, Int32.reduceLE, Nat.add_zero, Nat.zero_add, Nat.not_lt_zero, not_false_eq_true, not_true_eq_false, and_assoc, kl_q, kl_i, kl_r, kl_n, kl_0, kl_l, cs_0, cs_i, cs_r, cs_n, cs_l, aRf_s, aRf_n, gi_wl, gi_wr, gl_wi, gl_wl, gl_wr, gr_wi, gr_wl, gr_wr, sh_wi, sh_wl, sh_wr, gl_cp, gr_cp, sh_cp, gl_rw, gr_rw, sh_rw, gi_rl, gr_rl, sh_rl, Option.toList_some, Option.toList_none, List.nil_append, List.cons_append, List.append_nil, Option.some.injEq, Prod.mk.injEq, and_true, true_and, and_self, if_true, if_false, reduceCtorEq, Nat.reduceLeDiff, Nat.reduceLT, Nat.reduceAdd, Nat.reduceEqDiff, false_and, and_false, exists_const, exists_eq_left, exists_eq_left', exists_and_left, and_assoc, nb0, nb1]
          obtain ⟨q1, q2, q3, q4⟩ := ic
          have t4 : ∀ a k, 34 ≤ a → ¬ a = 37 → gi h4 a k = gi h3 a k := fun a k z1 z2 => a4.2 _ _ (by unfold IX AtZ; omega)
          refine hq h4 b4 ⟨q1, q2, q3, ?_, ?_, ?_, q4, fun i hi k hk => ?_, fun i hi k hk => ?_⟩
          · rw [t4 _ _ (by omega) (by omega), a3.2 _ _ (by unfold AtZ; omega), eh2, gi_wi_e]
            rfl
          · rw [t4 _ _ (by omega) (by omega), t3 _ _ (by omega) (by omega), r5]
          · rw [t4 _ _ (by omega) (by omega), t3 _ _ (by omega) (by omega), r6]
          · have hi : i < s.2.2.1.length := hi
            rw [t4 _ _ (by omega) (by omega), t3 _ _ (by omega) (by omega)]
            exact r8 i hi k hk
          · have hi : i < s.2.2.2.length := hi
            rw [t4 _ _ (by omega) (by omega), t3 _ _ (by omega) (by omega)]
            exact r9 i hi k hk
  · rw [if_neg c1] at hr
    have go53 : AW (d + 7) 55 53 [some (.ref 35), some (.int (lkI B T (sk B T p))), none] [] h1 Q := by
      by_cases c2 : sgB B T (sk B T p) = 100 ∧ s.2.2.1.length < 6
      · rw [if_pos c2] at hr
        have hpT := sg_lt (by omega) c2.1
        have f100 := l100.mpr c2.1
        have n6 : ¬ 6 ≤ s.2.2.1.length := by omega
        obtain ⟨g38, s38⟩ := r38i (i := s.2.2.1.length) ok c2.2
        simp (disch := omega) only [s55_53, s55_54, s55_56, s55_59, s55_60, s55_63, s55_66, s55_68, s55_71, s55_72, s55_75, s55_78, s55_79, s55_82, s55_85, s55_86, s55_87, s55_88, s55_91, s55_91i, s55_92, s55_95, s55_96, s55_97, s55_100, s55_103, s55_104, true_or, or_true, or_false, false_or, or_self, Int32.reduceLT, Int32.reduceLE, Nat.add_zero, Nat.zero_add, Nat.not_lt_zero, not_false_eq_true, not_true_eq_false, and_assoc, kl_q, kl_i, kl_r, kl_n, kl_0, kl_l, cs_0, cs_i, cs_r, cs_n, cs_l, aRf_s, aRf_n, gi_wl, gi_wr, gl_wi, gl_wl, gl_wr, gr_wi, gr_wl, gr_wr, sh_wi, sh_wl, sh_wr, gl_cp, gr_cp, sh_cp, gl_rw, gr_rw, sh_rw, gi_rl, gr_rl, sh_rl, Option.toList_some, Option.toList_none, List.nil_append, List.cons_append, List.append_nil, Option.some.injEq, Prod.mk.injEq, and_true, true_and, and_self, if_true, if_false, reduceCtorEq, Nat.reduceLeDiff, Nat.reduceLT, Nat.reduceAdd, Nat.reduceEqDiff, false_and, and_false, exists_const, exists_eq_left, exists_eq_left', exists_and_left, and_assoc, nltL, nltR, nleL, nleR, neqL, neqR, naL, naR, nmL, nmR, nI_ltI, nI_leI, nI_eq, nI_add, nI_mul, nI_clamp, n0l, n0r, nm1, nm1', nm1l, nm1r, nm1g, nsL, nI_m1, Nat.add_sub_cancel, vpn, vpL, nclL, le32, leLL, leLN, leNL, leNN, inA, nb0, nb1, gi_wi_n, gi_wi_e, gi_rw_n, gi_rw_e, aWi_rw, ifl, ifl_, ifle, ifle_, ifq, ifq_, ifnq, ifnq_, ifnl, ifnl_, ifnle, ifnle_, z35 ok, z36 ok, z38 ok, r35_0 ok, r36_1 ok, f100, r5, n6, c2.2, g38]
        rw [sp_row (n := 4) (z4 (h := aWi h1 36 3 (nI (s.2.2.1.length + 1))) ok) (r38i (h := aWi h1 36 3 (nI (s.2.2.1.length + 1))) ok c2.2).2 (by omega) (by decide), aCp_rw]
        obtain ⟨h2, eh2⟩ : ∃ h2, h2 = aRw (aWi h1 36 3 (nI (s.2.2.1.length + 1))) (39 + s.2.2.1.length) (fun j => if j < 4 then gi (aWi h1 36 3 (nI (s.2.2.1.length + 1))) 4 j else gi (aWi h1 36 3 (nI (s.2.2.1.length + 1))) (39 + s.2.2.1.length) j) := ⟨_, rfl⟩
        rw [← eh2]
        have a2 : Ag (fun a k => (a = 36 ∧ k = 3) ∨ a = 39 + s.2.2.1.length) h1 h2 := by
          rw [eh2]
          exact ((Ag.refl ok).wi (Or.inl ⟨rfl, rfl⟩)).rw (fun k => Or.inr rfl)
        have tc2 := r1.ag a2 (by omega) (by omega)
        have ok := tc2.1
        have b2 : Ag RX h h2 := b1.trans (a2.mono (fun a k z => Or.inr (by omega)))
        simp (disch := omega) only [s55_104, s55_107, s55_108, s55_111, true_or, or_true, or_false, false_or, or_self, Int32.reduceLT, Int32.reduceLE, Nat.add_zero, Nat.zero_add, Nat.not_lt_zero, not_false_eq_true, not_true_eq_false, and_assoc, kl_q, kl_i, kl_r, kl_n, kl_0, kl_l, cs_0, cs_i, cs_r, cs_n, cs_l, aRf_s, aRf_n, gi_wl, gi_wr, gl_wi, gl_wl, gl_wr, gr_wi, gr_wl, gr_wr, sh_wi, sh_wl, sh_wr, gl_cp, gr_cp, sh_cp, gl_rw, gr_rw, sh_rw, gi_rl, gr_rl, sh_rl, Option.toList_some, Option.toList_none, List.nil_append, List.cons_append, List.append_nil, Option.some.injEq, Prod.mk.injEq, and_true, true_and, and_self, if_true, if_false, reduceCtorEq, Nat.reduceLeDiff, Nat.reduceLT, Nat.reduceAdd, Nat.reduceEqDiff, false_and, and_false, exists_const, exists_eq_left, exists_eq_left', exists_and_left, and_assoc, nltL, nltR, nleL, nleR, neqL, neqR, naL, naR, nmL, nmR, nI_ltI, nI_leI, nI_eq, nI_add, nI_mul, nI_clamp, n0l, n0r, nm1, nm1', nm1l, nm1r, nm1g, nsL, nI_m1, Nat.add_sub_cancel, vpn, vpL, nclL, le32, leLL, leLN, leNL, leNN, inA, nb0, nb1, gi_wi_n, gi_wi_e, gi_rw_n, gi_rw_e, aWi_rw, ifl, ifl_, ifle, ifle_, ifq, ifq_, ifnq, ifnq_, ifnl, ifnl_, ifnle, ifnle_, z35 ok, z33 ok, r35_1 ok]
        refine c_passT tc2 hpT (show gi h2 33 2 = _ by rw [a2.2 _ _ (by omega), r3]) (fun h3 a3 g1 g2 => ?_)
        have tc3 := tc2.ag a3 (by unfold AtZ; omega) (by unfold AtZ; omega)
        have b3 : Ag RX h h3 := b2.trans (a3.mono (fun a k z => at_rx z))
        have ok := tc3.1
        have t3 : ∀ a k, 34 ≤ a → ¬ (a = 36 ∧ k = 3) → ¬ a = 39 + s.2.2.1.length → gi h3 a k = gi h1 a k := fun a k z1 z2 z3 => by rw [a3.2 _ _ (by unfold AtZ; omega), a2.2 _ _ (by omega)]
        have ic3 : ICon h3 := fun x j q1 q2 => by
          rw [a3.2 _ _ (by unfold AtZ; omega), a2.2 _ _ (by omega)]
          exact r2 x j q1 q2
        simp (disch := omega) only [s55_114, s55_115, s55_117, s55_120, s55_123, s55_124, true_or, or_true, or_false, false_or, or_self, Int32.reduceLT, Int32.reduceLE, Nat.add_zero, Nat.zero_add, Nat.not_lt_zero, not_false_eq_true, not_true_eq_false, and_assoc, kl_q, kl_i, kl_r, kl_n, kl_0, kl_l, cs_0, cs_i, cs_r, cs_n, cs_l, aRf_s, aRf_n, gi_wl, gi_wr, gl_wi, gl_wl, gl_wr, gr_wi, gr_wl, gr_wr, sh_wi, sh_wl, sh_wr, gl_cp, gr_cp, sh_cp, gl_rw, gr_rw, sh_rw, gi_rl, gr_rl, sh_rl, Option.toList_some, Option.toList_none, List.nil_append, List.cons_append, List.append_nil, Option.some.injEq, Prod.mk.injEq, and_true, true_and, and_self, if_true, if_false, reduceCtorEq, Nat.reduceLeDiff, Nat.reduceLT, Nat.reduceAdd, Nat.reduceEqDiff, false_and, and_false, exists_const, exists_eq_left, exists_eq_left', exists_and_left, and_assoc, nltL, nltR, nleL, nleR, neqL, neqR, naL, naR, nmL, nmR, nI_ltI, nI_leI, nI_eq, nI_add, nI_mul, nI_clamp, n0l, n0r, nm1, nm1', nm1l, nm1r, nm1g, nsL, nI_m1, Nat.add_sub_cancel, vpn, vpL, nclL, le32, leLL, leLN, leNL, leNN, inA, nb0, nb1, gi_wi_n, gi_wi_e, gi_rw_n, gi_rw_e, aWi_rw, ifl, ifl_, ifle, ifle_, ifq, ifq_, ifnq, ifnq_, ifnl, ifnl_, ifnle, ifnle_, z35 ok]
        cases hi : itG B T 1 (mK 1 + 1) (sk B T p + 1) 0 (usK 1) with
        | none =>
          rw [hi] at hr
          cases hr
        | some ri =>
          rw [hi] at hr
          refine c_itemsS (κ := 1) (R := 39 + s.2.2.1.length) (by omega) (by omega) (fun h ok => (r38i ok c2.2).2) hi (by omega) ⟨tc3, ic3, g1, fun k hk => ?_⟩ (fun h4 a4 => ?_)
          · have hk : k < 4 := hk
            rw [a3.2 _ _ (by unfold AtZ; omega), eh2, gi_rw_e, if_pos hk, gi_wi_n (by omega), r2 _ _ (by omega) (by omega)]
            exact (cnK 1 (by omega) k hk).1
          · have b4 : Ag RX h h4 := b3.trans (a4.mono (fun a k z => ix_rx (by omega) z))
            cases ri with
            | inl q =>
              cases hr
              intro f
              simp (disch := omega) only [s55_124, s55_127, true_or, or_true, or_false, false_or, or_self, Int32.reduceLT, Int32.reduceLE, Nat.add_zero, Nat.zero_add, Nat.not_lt_zero, not_false_eq_true, not_true_eq_false, and_assoc, kl_q, kl_i, kl_r, kl_n, kl_0, kl_l, cs_0, cs_i, cs_r, cs_n, cs_l, aRf_s, aRf_n, gi_wl, gi_wr, gl_wi, gl_wl, gl_wr, gr_wi, gr_wl, gr_wr, sh_wi, sh_wl, sh_wr, gl_cp, gr_cp, sh_cp, gl_rw, gr_rw, sh_rw, gi_rl, gr_rl, sh_rl, Option.toList_some, Option.toList_none, List.nil_append, List.cons_append, List.append_nil, Option.some.injEq, Prod.mk.injEq, and_true, true_and, and_self, if_true, if_false, reduceCtorEq, Nat.reduceLeDiff, Nat.reduceLT, Nat.reduceAdd, Nat.reduceEqDiff, false_and, and_false, exists_const, exists_eq_left, exists_eq_left', exists_and_left, and_assoc, nb0, nb1]
              exact hq h4 b4 f
            | inr x =>
              obtain ⟨p', row⟩ := x
              cases hr
              intro ic
              simp (disch := omega) only [s55_124, s55_127, true_or, or_true, or_false, false_or, or_self, Int32.reduceLT, Int32.reduceLE, Nat.add_zero, Nat.zero_add, Nat.not_lt_zero, not_false_eq_true, not_true_eq_false, and_assoc, kl_q, kl_i, kl_r, kl_n, kl_0, kl_l, cs_0, cs_i, cs_r, cs_n, cs_l, aRf_s, aRf_n, gi_wl, gi_wr, gl_wi, gl_wl, gl_wr, gr_wi, gr_wl, gr_wr, sh_wi, sh_wl, sh_wr, gl_cp, gr_cp, sh_cp, gl_rw, gr_rw, sh_rw, gi_rl, gr_rl, sh_rl, Option.toList_some, Option.toList_none, List.nil_append, List.cons_append, List.append_nil, Option.some.injEq, Prod.mk.injEq, and_true, true_and, and_self, if_true, if_false, reduceCtorEq, Nat.reduceLeDiff, Nat.reduceLT, Nat.reduceAdd, Nat.reduceEqDiff, false_and, and_false, exists_const, exists_eq_left, exists_eq_left', exists_and_left, and_assoc, nb0, nb1]
              obtain ⟨q1, q2, q3, q4⟩ := ic
              have t4 : ∀ a k, 34 ≤ a → ¬ a = 39 + s.2.2.1.length → gi h4 a k = gi h3 a k := fun a k z1 z2 => a4.2 _ _ (by unfold IX AtZ; omega)
              refine hq h4 b4 ⟨q1, q2, q3, ?_, ?_, ?_, fun k hk => ?_, fun i hi k hk => ?_, fun i hi k hk => ?_⟩
              · rw [t4 _ _ (by omega) (by omega), t3 _ _ (by omega) (by omega) (by omega), r4]
              · rw [t4 _ _ (by omega) (by omega), a3.2 _ _ (by unfold AtZ; omega), eh2, gi_rw_n (by omega), gi_wi_e]
                show _ = nI (s.2.2.1 ++ [row]).length
                rw [List.length_append]
                rfl
              · rw [t4 _ _ (by omega) (by omega), t3 _ _ (by omega) (by omega) (by omega), r6]
              · rw [t4 _ _ (by omega) (by omega), t3 _ _ (by omega) (by omega) (by omega)]
                exact r7 k hk
              · have hi : i < (s.2.2.1 ++ [row]).length := hi
                rw [List.length_append, List.length_singleton] at hi
                show _ = nI (mf (s.2.2.1 ++ [row]) i k)
                by_cases hil : i = s.2.2.1.length
                · subst hil
                  rw [mf_new]
                  exact q4 k hk
                · rw [mf_old (by omega), t4 _ _ (by omega) (by omega), t3 _ _ (by omega) (by omega) (by omega)]
                  exact r8 i (by omega) k hk
              · have hi : i < s.2.2.2.length := hi
                rw [t4 _ _ (by omega) (by omega), t3 _ _ (by omega) (by omega) (by omega)]
                exact r9 i hi k hk
      · rw [if_neg c2] at hr
        have go128 : AW (d + 7) 55 128 [some (.ref 35), some (.int (lkI B T (sk B T p))), none] [] h1 Q := by
          by_cases c3 : sgB B T (sk B T p) = 102 ∧ s.2.2.2.length < 5
          · rw [if_pos c3] at hr
            have hpT := sg_lt (by omega) c3.1
            have f102 := l102.mpr c3.1
            have n5 : ¬ 5 ≤ s.2.2.2.length := by omega
            obtain ⟨g45, s45⟩ := r45i (i := s.2.2.2.length) ok c3.2
            simp (disch := omega) only [s55_128, s55_129, s55_131, s55_134, s55_135, s55_138, s55_141, s55_142, s55_145, s55_146, s55_149, s55_152, s55_153, s55_156, s55_159, s55_160, s55_161, s55_162, s55_165, s55_165i, s55_166, s55_169, s55_170, s55_171, s55_174, s55_177, s55_178, true_or, or_true, or_false, false_or, or_self, Int32.reduceLT, Int32.reduceLE, Nat.add_zero, Nat.zero_add, Nat.not_lt_zero, not_false_eq_true, not_true_eq_false, and_assoc, kl_q, kl_i, kl_r, kl_n, kl_0, kl_l, cs_0, cs_i, cs_r, cs_n, cs_l, aRf_s, aRf_n, gi_wl, gi_wr, gl_wi, gl_wl, gl_wr, gr_wi, gr_wl, gr_wr, sh_wi, sh_wl, sh_wr, gl_cp, gr_cp, sh_cp, gl_rw, gr_rw, sh_rw, gi_rl, gr_rl, sh_rl, Option.toList_some, Option.toList_none, List.nil_append, List.cons_append, List.append_nil, Option.some.injEq, Prod.mk.injEq, and_true, true_and, and_self, if_true, if_false, reduceCtorEq, Nat.reduceLeDiff, Nat.reduceLT, Nat.reduceAdd, Nat.reduceEqDiff, false_and, and_false, exists_const, exists_eq_left, exists_eq_left', exists_and_left, and_assoc, nltL, nltR, nleL, nleR, neqL, neqR, naL, naR, nmL, nmR, nI_ltI, nI_leI, nI_eq, nI_add, nI_mul, nI_clamp, n0l, n0r, nm1, nm1', nm1l, nm1r, nm1g, nsL, nI_m1, Nat.add_sub_cancel, vpn, vpL, nclL, le32, leLL, leLN, leNL, leNN, inA, nb0, nb1, gi_wi_n, gi_wi_e, gi_rw_n, gi_rw_e, aWi_rw, ifl, ifl_, ifle, ifle_, ifq, ifq_, ifnq, ifnq_, ifnl, ifnl_, ifnle, ifnle_, z35 ok, z36 ok, z45 ok, r35_0 ok, r36_2 ok, f102, r6, n5, c3.2, g45]
            rw [sp_row (n := 2) (z7 (h := aWi h1 36 4 (nI (s.2.2.2.length + 1))) ok) (r45i (h := aWi h1 36 4 (nI (s.2.2.2.length + 1))) ok c3.2).2 (by omega) (by decide), aCp_rw]
            obtain ⟨h2, eh2⟩ : ∃ h2, h2 = aRw (aWi h1 36 4 (nI (s.2.2.2.length + 1))) (46 + s.2.2.2.length) (fun j => if j < 2 then gi (aWi h1 36 4 (nI (s.2.2.2.length + 1))) 7 j else gi (aWi h1 36 4 (nI (s.2.2.2.length + 1))) (46 + s.2.2.2.length) j) := ⟨_, rfl⟩
            rw [← eh2]
            have a2 : Ag (fun a k => (a = 36 ∧ k = 4) ∨ a = 46 + s.2.2.2.length) h1 h2 := by
              rw [eh2]
              exact ((Ag.refl ok).wi (Or.inl ⟨rfl, rfl⟩)).rw (fun k => Or.inr rfl)
            have tc2 := r1.ag a2 (by omega) (by omega)
            have ok := tc2.1
            have b2 : Ag RX h h2 := b1.trans (a2.mono (fun a k z => Or.inr (by omega)))
            simp (disch := omega) only [s55_178, s55_181, s55_182, s55_185, true_or, or_true, or_false, false_or, or_self, Int32.reduceLT, Int32.reduceLE, Nat.add_zero, Nat.zero_add, Nat.not_lt_zero, not_false_eq_true, not_true_eq_false, and_assoc, kl_q, kl_i, kl_r, kl_n, kl_0, kl_l, cs_0, cs_i, cs_r, cs_n, cs_l, aRf_s, aRf_n, gi_wl, gi_wr, gl_wi, gl_wl, gl_wr, gr_wi, gr_wl, gr_wr, sh_wi, sh_wl, sh_wr, gl_cp, gr_cp, sh_cp, gl_rw, gr_rw, sh_rw, gi_rl, gr_rl, sh_rl, Option.toList_some, Option.toList_none, List.nil_append, List.cons_append, List.append_nil, Option.some.injEq, Prod.mk.injEq, and_true, true_and, and_self, if_true, if_false, reduceCtorEq, Nat.reduceLeDiff, Nat.reduceLT, Nat.reduceAdd, Nat.reduceEqDiff, false_and, and_false, exists_const, exists_eq_left, exists_eq_left', exists_and_left, and_assoc, nltL, nltR, nleL, nleR, neqL, neqR, naL, naR, nmL, nmR, nI_ltI, nI_leI, nI_eq, nI_add, nI_mul, nI_clamp, n0l, n0r, nm1, nm1', nm1l, nm1r, nm1g, nsL, nI_m1, Nat.add_sub_cancel, vpn, vpL, nclL, le32, leLL, leLN, leNL, leNN, inA, nb0, nb1, gi_wi_n, gi_wi_e, gi_rw_n, gi_rw_e, aWi_rw, ifl, ifl_, ifle, ifle_, ifq, ifq_, ifnq, ifnq_, ifnl, ifnl_, ifnle, ifnle_, z35 ok, z33 ok, r35_1 ok]
            refine c_passT tc2 hpT (show gi h2 33 2 = _ by rw [a2.2 _ _ (by omega), r3]) (fun h3 a3 g1 g2 => ?_)
            have tc3 := tc2.ag a3 (by unfold AtZ; omega) (by unfold AtZ; omega)
            have b3 : Ag RX h h3 := b2.trans (a3.mono (fun a k z => at_rx z))
            have ok := tc3.1
            have t3 : ∀ a k, 34 ≤ a → ¬ (a = 36 ∧ k = 4) → ¬ a = 46 + s.2.2.2.length → gi h3 a k = gi h1 a k := fun a k z1 z2 z3 => by rw [a3.2 _ _ (by unfold AtZ; omega), a2.2 _ _ (by omega)]
            have ic3 : ICon h3 := fun x j q1 q2 => by
              rw [a3.2 _ _ (by unfold AtZ; omega), a2.2 _ _ (by omega)]
              exact r2 x j q1 q2
            simp (disch := omega) only [s55_188, s55_189, s55_191, s55_194, s55_197, s55_198, true_or, or_true, or_false, false_or, or_self, Int32.reduceLT, Int32.reduceLE, Nat.add_zero, Nat.zero_add, Nat.not_lt_zero, not_false_eq_true, not_true_eq_false, and_assoc, kl_q, kl_i, kl_r, kl_n, kl_0, kl_l, cs_0, cs_i, cs_r, cs_n, cs_l, aRf_s, aRf_n, gi_wl, gi_wr, gl_wi, gl_wl, gl_wr, gr_wi, gr_wl, gr_wr, sh_wi, sh_wl, sh_wr, gl_cp, gr_cp, sh_cp, gl_rw, gr_rw, sh_rw, gi_rl, gr_rl, sh_rl, Option.toList_some, Option.toList_none, List.nil_append, List.cons_append, List.append_nil, Option.some.injEq, Prod.mk.injEq, and_true, true_and, and_self, if_true, if_false, reduceCtorEq, Nat.reduceLeDiff, Nat.reduceLT, Nat.reduceAdd, Nat.reduceEqDiff, false_and, and_false, exists_const, exists_eq_left, exists_eq_left', exists_and_left, and_assoc, nltL, nltR, nleL, nleR, neqL, neqR, naL, naR, nmL, nmR, nI_ltI, nI_leI, nI_eq, nI_add, nI_mul, nI_clamp, n0l, n0r, nm1, nm1', nm1l, nm1r, nm1g, nsL, nI_m1, Nat.add_sub_cancel, vpn, vpL, nclL, le32, leLL, leLN, leNL, leNN, inA, nb0, nb1, gi_wi_n, gi_wi_e, gi_rw_n, gi_rw_e, aWi_rw, ifl, ifl_, ifle, ifle_, ifq, ifq_, ifnq, ifnq_, ifnl, ifnl_, ifnle, ifnle_, z35 ok]
            cases hi : itG B T 2 (mK 2 + 1) (sk B T p + 1) 0 (usK 2) with
            | none =>
              rw [hi] at hr
              cases hr
            | some ri =>
              rw [hi] at hr
              refine c_itemsS (κ := 2) (R := 46 + s.2.2.2.length) (by omega) (by omega) (fun h ok => (r45i ok c3.2).2) hi (by omega) ⟨tc3, ic3, g1, fun k hk => ?_⟩ (fun h4 a4 => ?_)
              · have hk : k < 2 := hk
                rw [a3.2 _ _ (by unfold AtZ; omega), eh2, gi_rw_e, if_pos hk, gi_wi_n (by omega), r2 _ _ (by omega) (by omega)]
                exact (cnK 2 (by omega) k hk).1
              · have b4 : Ag RX h h4 := b3.trans (a4.mono (fun a k z => ix_rx (by omega) z))
                cases ri with
                | inl q =>
                  cases hr
                  intro f
                  simp (disch := omega) only [s55_198, s55_201, true_or, or_true, or_false, false_or, or_self, Int32.reduceLT, Int32.reduceLE, Nat.add_zero, Nat.zero_add, Nat.not_lt_zero, not_false_eq_true, not_true_eq_false, and_assoc, kl_q, kl_i, kl_r, kl_n, kl_0, kl_l, cs_0, cs_i, cs_r, cs_n, cs_l, aRf_s, aRf_n, gi_wl, gi_wr, gl_wi, gl_wl, gl_wr, gr_wi, gr_wl, gr_wr, sh_wi, sh_wl, sh_wr, gl_cp, gr_cp, sh_cp, gl_rw, gr_rw, sh_rw, gi_rl, gr_rl, sh_rl, Option.toList_some, Option.toList_none, List.nil_append, List.cons_append, List.append_nil, Option.some.injEq, Prod.mk.injEq, and_true, true_and, and_self, if_true, if_false, reduceCtorEq, Nat.reduceLeDiff, Nat.reduceLT, Nat.reduceAdd, Nat.reduceEqDiff, false_and, and_false, exists_const, exists_eq_left, exists_eq_left', exists_and_left, and_assoc, nb0, nb1]
                  exact hq h4 b4 f
                | inr x =>
                  obtain ⟨p', row⟩ := x
                  cases hr
                  intro ic
                  simp (disch := omega) only [s55_198, s55_201, true_or, or_true, or_false, false_or, or_self, Int32.reduceLT, Int32.reduceLE, Nat.add_zero, Nat.zero_add, Nat.not_lt_zero, not_false_eq_true, not_true_eq_false, and_assoc, kl_q, kl_i, kl_r, kl_n, kl_0, kl_l, cs_0, cs_i, cs_r, cs_n, cs_l, aRf_s, aRf_n, gi_wl, gi_wr, gl_wi, gl_wl, gl_wr, gr_wi, gr_wl, gr_wr, sh_wi, sh_wl, sh_wr, gl_cp, gr_cp, sh_cp, gl_rw, gr_rw, sh_rw, gi_rl, gr_rl, sh_rl, Option.toList_some, Option.toList_none, List.nil_append, List.cons_append, List.append_nil, Option.some.injEq, Prod.mk.injEq, and_true, true_and, and_self, if_true, if_false, reduceCtorEq, Nat.reduceLeDiff, Nat.reduceLT, Nat.reduceAdd, Nat.reduceEqDiff, false_and, and_false, exists_const, exists_eq_left, exists_eq_left', exists_and_left, and_assoc, nb0, nb1]
                  obtain ⟨q1, q2, q3, q4⟩ := ic
                  have t4 : ∀ a k, 34 ≤ a → ¬ a = 46 + s.2.2.2.length → gi h4 a k = gi h3 a k := fun a k z1 z2 => a4.2 _ _ (by unfold IX AtZ; omega)
                  refine hq h4 b4 ⟨q1, q2, q3, ?_, ?_, ?_, fun k hk => ?_, fun i hi k hk => ?_, fun i hi k hk => ?_⟩
                  · rw [t4 _ _ (by omega) (by omega), t3 _ _ (by omega) (by omega) (by omega), r4]
                  · rw [t4 _ _ (by omega) (by omega), t3 _ _ (by omega) (by omega) (by omega), r5]
                  · rw [t4 _ _ (by omega) (by omega), a3.2 _ _ (by unfold AtZ; omega), eh2, gi_rw_n (by omega), gi_wi_e]
                    show _ = nI (s.2.2.2 ++ [row]).length
                    rw [List.length_append]
                    rfl
                  · rw [t4 _ _ (by omega) (by omega), t3 _ _ (by omega) (by omega) (by omega)]
                    exact r7 k hk
                  · have hi : i < s.2.2.1.length := hi
                    rw [t4 _ _ (by omega) (by omega), t3 _ _ (by omega) (by omega) (by omega)]
                    exact r8 i hi k hk
                  · have hi : i < (s.2.2.2 ++ [row]).length := hi
                    rw [List.length_append, List.length_singleton] at hi
                    show _ = nI (mf (s.2.2.2 ++ [row]) i k)
                    by_cases hil : i = s.2.2.2.length
                    · subst hil
                      rw [mf_new]
                      exact q4 k hk
                    · rw [mf_old (by omega), t4 _ _ (by omega) (by omega), t3 _ _ (by omega) (by omega) (by omega)]
                      exact r9 i (by omega) k hk
          · rw [if_neg c3] at hr
            cases hr
            have t : AW (d + 7) 55 202 [some (.ref 35), some (.int (lkI B T (sk B T p))), none] [] h1 Q := rc_wrong rc1 ⟨o1, o2, o3, o4, o5, o6⟩ (fun h' a' f' => hq h' (b1.trans a') f')
            by_cases z : sgB B T (sk B T p) = 102
            · have f102 := l102.mpr z
              have n5 : 5 ≤ s.2.2.2.length := by omega
              rw [f102] at t ⊢
              simp (disch := omega) only [s55_128, s55_129, s55_131, s55_134, s55_135, s55_138, s55_141, s55_142, s55_145, s55_146, s55_149, s55_152, s55_153, s55_156, s55_159, s55_160, s55_161, s55_162, s55_165, s55_165i, s55_166, s55_169, s55_170, s55_171, s55_174, s55_177, s55_178, s55_181, s55_182, s55_185, s55_188, s55_189, s55_191, s55_194, s55_197, s55_198, s55_201, true_or, or_true, or_false, false_or, or_self, Int32.reduceLT, Int32.reduceLE, Nat.add_zero, Nat.zero_add, Nat.not_lt_zero, not_false_eq_true, not_true_eq_false, and_assoc, kl_q, kl_i, kl_r, kl_n, kl_0, kl_l, cs_0, cs_i, cs_r, cs_n, cs_l, aRf_s, aRf_n, gi_wl, gi_wr, gl_wi, gl_wl, gl_wr, gr_wi, gr_wl, gr_wr, sh_wi, sh_wl, sh_wr, gl_cp, gr_cp, sh_cp, gl_rw, gr_rw, sh_rw, gi_rl, gr_rl, sh_rl, Option.toList_some, Option.toList_none, List.nil_append, List.cons_append, List.append_nil, Option.some.injEq, Prod.mk.injEq, and_true, true_and, and_self, if_true, if_false, reduceCtorEq, Nat.reduceLeDiff, Nat.reduceLT, Nat.reduceAdd, Nat.reduceEqDiff, false_and, and_false, exists_const, exists_eq_left, exists_eq_left', exists_and_left, and_assoc, nltL, nltR, nleL, nleR, neqL, neqR, naL, naR, nmL, nmR, nI_ltI, nI_leI, nI_eq, nI_add, nI_mul, nI_clamp, n0l, n0r, nm1, nm1', nm1l, nm1r, nm1g, nsL, nI_m1, Nat.add_sub_cancel, vpn, vpL, nclL, le32, leLL, leLN, leNL, leNN, inA, nb0, nb1, gi_wi_n, gi_wi_e, gi_rw_n, gi_rw_e, aWi_rw, ifl, ifl_, ifle, ifle_, ifq, ifq_, ifnq, ifnq_, ifnl, ifnl_, ifnle, ifnle_, z35 ok, z36 ok, r35_0 ok, r6, n5]
              exact t
            · have n102 : ¬ lkI B T (sk B T p) = 102 := fun q => z (l102.mp q)
              simp (disch := omega) only [s55_128, s55_129, s55_131, s55_134, s55_135, s55_138, s55_141, s55_142, s55_145, s55_146, s55_149, s55_152, s55_153, s55_156, s55_159, s55_160, s55_161, s55_162, s55_165, s55_165i, s55_166, s55_169, s55_170, s55_171, s55_174, s55_177, s55_178, s55_181, s55_182, s55_185, s55_188, s55_189, s55_191, s55_194, s55_197, s55_198, s55_201, true_or, or_true, or_false, false_or, or_self, Int32.reduceLT, Int32.reduceLE, Nat.add_zero, Nat.zero_add, Nat.not_lt_zero, not_false_eq_true, not_true_eq_false, and_assoc, kl_q, kl_i, kl_r, kl_n, kl_0, kl_l, cs_0, cs_i, cs_r, cs_n, cs_l, aRf_s, aRf_n, gi_wl, gi_wr, gl_wi, gl_wl, gl_wr, gr_wi, gr_wl, gr_wr, sh_wi, sh_wl, sh_wr, gl_cp, gr_cp, sh_cp, gl_rw, gr_rw, sh_rw, gi_rl, gr_rl, sh_rl, Option.toList_some, Option.toList_none, List.nil_append, List.cons_append, List.append_nil, Option.some.injEq, Prod.mk.injEq, and_true, true_and, and_self, if_true, if_false, reduceCtorEq, Nat.reduceLeDiff, Nat.reduceLT, Nat.reduceAdd, Nat.reduceEqDiff, false_and, and_false, exists_const, exists_eq_left, exists_eq_left', exists_and_left, and_assoc, nltL, nltR, nleL, nleR, neqL, neqR, naL, naR, nmL, nmR, nI_ltI, nI_leI, nI_eq, nI_add, nI_mul, nI_clamp, n0l, n0r, nm1, nm1', nm1l, nm1r, nm1g, nsL, nI_m1, Nat.add_sub_cancel, vpn, vpL, nclL, le32, leLL, leLN, leNL, leNN, inA, nb0, nb1, gi_wi_n, gi_wi_e, gi_rw_n, gi_rw_e, aWi_rw, ifl, ifl_, ifle, ifle_, ifq, ifq_, ifnq, ifnq_, ifnl, ifnl_, ifnle, ifnle_, n102]
              exact t
        by_cases z : sgB B T (sk B T p) = 100
        · have f100 := l100.mpr z
          have n6 : 6 ≤ s.2.2.1.length := by omega
          rw [f100] at go128 ⊢
          simp (disch := omega) only [s55_53, s55_54, s55_56, s55_59, s55_60, s55_63, s55_66, s55_68, s55_71, s55_72, s55_75, s55_78, s55_79, s55_82, s55_85, s55_86, s55_87, s55_88, s55_91, s55_91i, s55_92, s55_95, s55_96, s55_97, s55_100, s55_103, s55_104, s55_107, s55_108, s55_111, s55_114, s55_115, s55_117, s55_120, s55_123, s55_124, s55_127, true_or, or_true, or_false, false_or, or_self, Int32.reduceLT, Int32.reduceLE, Nat.add_zero, Nat.zero_add, Nat.not_lt_zero, not_false_eq_true, not_true_eq_false, and_assoc, kl_q, kl_i, kl_r, kl_n, kl_0, kl_l, cs_0, cs_i, cs_r, cs_n, cs_l, aRf_s, aRf_n, gi_wl, gi_wr, gl_wi, gl_wl, gl_wr, gr_wi, gr_wl, gr_wr, sh_wi, sh_wl, sh_wr, gl_cp, gr_cp, sh_cp, gl_rw, gr_rw, sh_rw, gi_rl, gr_rl, sh_rl, Option.toList_some, Option.toList_none, List.nil_append, List.cons_append, List.append_nil, Option.some.injEq, Prod.mk.injEq, and_true, true_and, and_self, if_true, if_false, reduceCtorEq, Nat.reduceLeDiff, Nat.reduceLT, Nat.reduceAdd, Nat.reduceEqDiff, false_and, and_false, exists_const, exists_eq_left, exists_eq_left', exists_and_left, and_assoc, nltL, nltR, nleL, nleR, neqL, neqR, naL, naR, nmL, nmR, nI_ltI, nI_leI, nI_eq, nI_add, nI_mul, nI_clamp, n0l, n0r, nm1, nm1', nm1l, nm1r, nm1g, nsL, nI_m1, Nat.add_sub_cancel, vpn, vpL, nclL, le32, leLL, leLN, leNL, leNN, inA, nb0, nb1, gi_wi_n, gi_wi_e, gi_rw_n, gi_rw_e, aWi_rw, ifl, ifl_, ifle, ifle_, ifq, ifq_, ifnq, ifnq_, ifnl, ifnl_, ifnle, ifnle_, z35 ok, z36 ok, r35_0 ok, r5, n6]
          exact go128
        · have n100 : ¬ lkI B T (sk B T p) = 100 := fun q => z (l100.mp q)
          simp (disch := omega) only [s55_53, s55_54, s55_56, s55_59, s55_60, s55_63, s55_66, s55_68, s55_71, s55_72, s55_75, s55_78, s55_79, s55_82, s55_85, s55_86, s55_87, s55_88, s55_91, s55_91i, s55_92, s55_95, s55_96, s55_97, s55_100, s55_103, s55_104, s55_107, s55_108, s55_111, s55_114, s55_115, s55_117, s55_120, s55_123, s55_124, s55_127, true_or, or_true, or_false, false_or, or_self, Int32.reduceLT, Int32.reduceLE, Nat.add_zero, Nat.zero_add, Nat.not_lt_zero, not_false_eq_true, not_true_eq_false, and_assoc, kl_q, kl_i, kl_r, kl_n, kl_0, kl_l, cs_0, cs_i, cs_r, cs_n, cs_l, aRf_s, aRf_n, gi_wl, gi_wr, gl_wi, gl_wl, gl_wr, gr_wi, gr_wl, gr_wr, sh_wi, sh_wl, sh_wr, gl_cp, gr_cp, sh_cp, gl_rw, gr_rw, sh_rw, gi_rl, gr_rl, sh_rl, Option.toList_some, Option.toList_none, List.nil_append, List.cons_append, List.append_nil, Option.some.injEq, Prod.mk.injEq, and_true, true_and, and_self, if_true, if_false, reduceCtorEq, Nat.reduceLeDiff, Nat.reduceLT, Nat.reduceAdd, Nat.reduceEqDiff, false_and, and_false, exists_const, exists_eq_left, exists_eq_left', exists_and_left, and_assoc, nltL, nltR, nleL, nleR, neqL, neqR, naL, naR, nmL, nmR, nI_ltI, nI_leI, nI_eq, nI_add, nI_mul, nI_clamp, n0l, n0r, nm1, nm1', nm1l, nm1r, nm1g, nsL, nI_m1, Nat.add_sub_cancel, vpn, vpL, nclL, le32, leLL, leLN, leNL, leNN, inA, nb0, nb1, gi_wi_n, gi_wi_e, gi_rw_n, gi_rw_e, aWi_rw, ifl, ifl_, ifle, ifle_, ifq, ifq_, ifnq, ifnq_, ifnl, ifnl_, ifnle, ifnle_, n100]
          exact go128
    by_cases z : sgB B T (sk B T p) = 115
    · have f115 := l115.mpr z
      have e35 : gi h1 35 2 = 1 := by
        rw [r4]
        cases hs1 : s.1
        · exact absurd ⟨z, hs1⟩ c1
        · rfl
      rw [f115] at go53 ⊢
      simp (disch := omega) only [s55_7, s55_8, s55_9, s55_11, s55_14, s55_15, s55_18, s55_21, s55_22, s55_23, s55_26, s55_27, s55_30, s55_33, s55_34, s55_36, s55_39, s55_42, s55_43, s55_46, s55_49, s55_52, true_or, or_true, or_false, false_or, or_self, Int32.reduceLT, Int32.reduceLE, Nat.add_zero, Nat.zero_add, Nat.not_lt_zero, not_false_eq_true, not_true_eq_false, and_assoc, kl_q, kl_i, kl_r, kl_n, kl_0, kl_l, cs_0, cs_i, cs_r, cs_n, cs_l, aRf_s, aRf_n, gi_wl, gi_wr, gl_wi, gl_wl, gl_wr, gr_wi, gr_wl, gr_wr, sh_wi, sh_wl, sh_wr, gl_cp, gr_cp, sh_cp, gl_rw, gr_rw, sh_rw, gi_rl, gr_rl, sh_rl, Option.toList_some, Option.toList_none, List.nil_append, List.cons_append, List.append_nil, Option.some.injEq, Prod.mk.injEq, and_true, true_and, and_self, if_true, if_false, reduceCtorEq, Nat.reduceLeDiff, Nat.reduceLT, Nat.reduceAdd, Nat.reduceEqDiff, false_and, and_false, exists_const, exists_eq_left, exists_eq_left', exists_and_left, and_assoc, nltL, nltR, nleL, nleR, neqL, neqR, naL, naR, nmL, nmR, nI_ltI, nI_leI, nI_eq, nI_add, nI_mul, nI_clamp, n0l, n0r, nm1, nm1', nm1l, nm1r, nm1g, nsL, nI_m1, Nat.add_sub_cancel, vpn, vpL, nclL, le32, leLL, leLN, leNL, leNN, inA, nb0, nb1, gi_wi_n, gi_wi_e, gi_rw_n, gi_rw_e, aWi_rw, ifl, ifl_, ifle, ifle_, ifq, ifq_, ifnq, ifnq_, ifnl, ifnl_, ifnle, ifnle_, z35 ok, e35]
      exact go53
    · have n115 : ¬ lkI B T (sk B T p) = 115 := fun q => z (l115.mp q)
      simp (disch := omega) only [s55_7, s55_8, s55_9, s55_11, s55_14, s55_15, s55_18, s55_21, s55_22, s55_23, s55_26, s55_27, s55_30, s55_33, s55_34, s55_36, s55_39, s55_42, s55_43, s55_46, s55_49, s55_52, true_or, or_true, or_false, false_or, or_self, Int32.reduceLT, Int32.reduceLE, Nat.add_zero, Nat.zero_add, Nat.not_lt_zero, not_false_eq_true, not_true_eq_false, and_assoc, kl_q, kl_i, kl_r, kl_n, kl_0, kl_l, cs_0, cs_i, cs_r, cs_n, cs_l, aRf_s, aRf_n, gi_wl, gi_wr, gl_wi, gl_wl, gl_wr, gr_wi, gr_wl, gr_wr, sh_wi, sh_wl, sh_wr, gl_cp, gr_cp, sh_cp, gl_rw, gr_rw, sh_rw, gi_rl, gr_rl, sh_rl, Option.toList_some, Option.toList_none, List.nil_append, List.cons_append, List.append_nil, Option.some.injEq, Prod.mk.injEq, and_true, true_and, and_self, if_true, if_false, reduceCtorEq, Nat.reduceLeDiff, Nat.reduceLT, Nat.reduceAdd, Nat.reduceEqDiff, false_and, and_false, exists_const, exists_eq_left, exists_eq_left', exists_and_left, and_assoc, nltL, nltR, nleL, nleR, neqL, neqR, naL, naR, nmL, nmR, nI_ltI, nI_leI, nI_eq, nI_add, nI_mul, nI_clamp, n0l, n0r, nm1, nm1', nm1l, nm1r, nm1g, nsL, nI_m1, Nat.add_sub_cancel, vpn, vpL, nclL, le32, leLL, leLN, leNL, leNN, inA, nb0, nb1, gi_wi_n, gi_wi_e, gi_rw_n, gi_rw_e, aWi_rw, ifl, ifl_, ifle, ifle_, ifq, ifq_, ifnq, ifnq_, ifnl, ifnl_, ifnle, ifnle_, n115]
      exact go53
end D2
