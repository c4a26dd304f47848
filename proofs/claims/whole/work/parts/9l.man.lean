-- deps: 9k.low
/-! ===== man ===== -/
theorem same_wi0 {g h : aM} {x : Int32} (s : Same g h) : Same g (aWi h 399 0 x) := (s.ag.wi (Or.inr (Or.inr (Or.inr (Or.inr (Or.inr (Or.inr (Or.inr (Or.inr (Or.inr (Or.inr (Or.inr (Or.inr (Or.inr (Or.inr (Or.inl ⟨rfl, Or.inl rfl⟩)))))))))))))))).same
theorem pmt_iff {g : aM} {M : Nat} {p q : Int32} (e : gi g 58 3 = nI M) : aPMt g p q ↔ (isM M p = false ∨ inR q 0 4 = false) := by
  unfold aPMt isM inR
  rw [e, decide_eq_false_iff_not, decide_eq_false_iff_not, Classical.not_and_iff_not_or_not, Classical.not_and_iff_not_or_not, Int32.not_le, Int32.not_lt, Int32.not_le, Int32.not_le]
  constructor
  · rintro (h | h | h | h)
    · exact Or.inl (Or.inl h)
    · exact Or.inl (Or.inr h)
    · exact Or.inr (Or.inl h)
    · exact Or.inr (Or.inr h)
  · rintro ((h | h) | (h | h))
    · exact Or.inl h
    · exact Or.inr (Or.inl h)
    · exact Or.inr (Or.inr (Or.inl h))
    · exact Or.inr (Or.inr (Or.inr h))
section MAN
variable {g h : aM} {M F L W D d : Nat} {s : Nat → Int32} {lg : Nat → Nat → Int32}
theorem m_man {Q : Option Value → aM → Prop} (og : OK g) (it : ITold g M F L W) (sc : StC g M F 79 s) (sm0 : StM g lg 416 0 s D) (sa : Same g h) (p q : Int32) (hq : ∀ h' X, Same g h' → ((aPMt g p q ∧ gi h' 399 0 = 1) ∨ (¬ aPMt g p q ∧ gi h' 399 0 = 0 ∧ X = aPMv g p q)) → Q (some (.int X)) h') : AW (d + 3) 218 0 [some (.ref 399), some (.int p), some (.int q)] [] h Q := by
  have hM : M ≤ 6 := it.1
  have hM' : M ≤ 10 := by omega
  obtain ⟨r1, r2, r3, r4, r5, r6, r7, r8⟩ := rd58 it sa
  have ok := sa.1
  have rg := (rd58 it (Same.refl og)).1
  have sx : ∀ x, Same g (aWi h 399 0 x) := fun x => same_wi0 sa
  cases ha : isM M p
  · simp (disch := omega) only [s218_0, s218_1, s218_2, s218_3, s218_6, s218_9, s218_10, s218_11, s218_12, s218_15, s218_18, s218_19, s218_22, s218_23, s218_26, s218_27, s218_30, s218_31, s218_34, s218_35, s218_36, s218_37_0, s218_37_1, s218_37_2, s218_37_3, s218_68, s218_69, s218_72, s218_73, s218_74, s218_75, s218_76, s218_77, s218_78, s218_81, s218_83, s218_84, s218_85, s218_86, s218_87, s218_88, s218_91, s218_93, s218_94, s218_95, s218_96, s218_97, s218_98, s218_99, s218_100, s218_103, s218_104, s218_105, s218_108, s218_110, s218_111, s218_112, s218_113, true_or, or_true, or_false, false_or, or_self, Int32.reduceLT, Int32.reduceLE, Nat.add_zero, Nat.zero_add, Nat.not_lt_zero, not_false_eq_true, not_true_eq_false, and_assoc, kl_q, kl_i, kl_r, kl_n, kl_0, kl_l, cs_0, cs_i, cs_r, cs_n, cs_l, aRf_s, aRf_n, gi_wl, gi_wr, gl_wi, gl_wl, gl_wr, gr_wi, gr_wl, gr_wr, sh_wi, sh_wl, sh_wr, gl_cp, gr_cp, sh_cp, gl_rw, gr_rw, sh_rw, gi_rl, gr_rl, sh_rl, Option.toList_some, Option.toList_none, List.nil_append, List.cons_append, List.append_nil, Option.some.injEq, Prod.mk.injEq, and_true, true_and, and_self, if_true, if_false, reduceCtorEq, Nat.reduceLeDiff, Nat.reduceLT, Nat.reduceAdd, Nat.reduceEqDiff, false_and, and_false, exists_const, exists_eq_left, exists_eq_left', exists_and_left, and_assoc, nltL, nltR, nleL, nleR, neqL, neqR, naL, naR, nmL, nmR, nI_ltI, nI_leI, nI_eq, nI_add, nI_mul, nI_clamp, n0l, n0r, nm1, nm1', nm1l, nm1r, nm1g, nsL, nI_m1, Nat.add_sub_cancel, vpn, vpL, nclL, le32, leLL, leLN, leNL, leNN, inA, nb0, nb1, gi_wi_n, gi_wi_e, gi_rw_n, gi_rw_e, aWi_rw, ifl, ifl_, ifle, ifle_, ifq, ifq_, ifnq, ifnq_, ifnl, ifnl_, ifnle, ifnle_, z399 ok, m_isMan ok hM' r2, ha, bI_0]
    exact hq _ _ (sx 1) (Or.inl ⟨(pmt_iff rg).mpr (Or.inl ha), gi_wi_e⟩)
  · obtain ⟨k, hk, rfl⟩ := isM_of ha (by omega)
    rcases sw4 q with hd | rfl | rfl | rfl | rfl | rfl
    · have hi := inR_sw (n := 4) (by omega) hd
      rw [show nI 4 = 4 from rfl] at hi
      simp (disch := omega) only [s218_0, s218_1, s218_2, s218_3, s218_6, s218_9, s218_10, s218_11, s218_12, s218_15, s218_18, s218_19, s218_22, s218_23, s218_26, s218_27, s218_30, s218_31, s218_34, s218_35, s218_36, s218_37_0, s218_37_1, s218_37_2, s218_37_3, s218_68, s218_69, s218_72, s218_73, s218_74, s218_75, s218_76, s218_77, s218_78, s218_81, s218_83, s218_84, s218_85, s218_86, s218_87, s218_88, s218_91, s218_93, s218_94, s218_95, s218_96, s218_97, s218_98, s218_99, s218_100, s218_103, s218_104, s218_105, s218_108, s218_110, s218_111, s218_112, s218_113, true_or, or_true, or_false, false_or, or_self, Int32.reduceLT, Int32.reduceLE, Nat.add_zero, Nat.zero_add, Nat.not_lt_zero, not_false_eq_true, not_true_eq_false, and_assoc, kl_q, kl_i, kl_r, kl_n, kl_0, kl_l, cs_0, cs_i, cs_r, cs_n, cs_l, aRf_s, aRf_n, gi_wl, gi_wr, gl_wi, gl_wl, gl_wr, gr_wi, gr_wl, gr_wr, sh_wi, sh_wl, sh_wr, gl_cp, gr_cp, sh_cp, gl_rw, gr_rw, sh_rw, gi_rl, gr_rl, sh_rl, Option.toList_some, Option.toList_none, List.nil_append, List.cons_append, List.append_nil, Option.some.injEq, Prod.mk.injEq, and_true, true_and, and_self, if_true, if_false, reduceCtorEq, Nat.reduceLeDiff, Nat.reduceLT, Nat.reduceAdd, Nat.reduceEqDiff, false_and, and_false, exists_const, exists_eq_left, exists_eq_left', exists_and_left, and_assoc, nltL, nltR, nleL, nleR, neqL, neqR, naL, naR, nmL, nmR, nI_ltI, nI_leI, nI_eq, nI_add, nI_mul, nI_clamp, n0l, n0r, nm1, nm1', nm1l, nm1r, nm1g, nsL, nI_m1, Nat.add_sub_cancel, vpn, vpL, nclL, le32, leLL, leLN, leNL, leNN, inA, nb0, nb1, gi_wi_n, gi_wi_e, gi_rw_n, gi_rw_e, aWi_rw, ifl, ifl_, ifle, ifle_, ifq, ifq_, ifnq, ifnq_, ifnl, ifnl_, ifnle, ifnle_, z399 ok, m_isMan ok hM' r2, ha, m_in, hi, bI_0]
      exact hq _ _ (sx 1) (Or.inl ⟨(pmt_iff rg).mpr (Or.inr hi), gi_wi_e⟩)
    · have hi : inR 0 0 4 = true := by decide
      have e : gi h 416 (k) = gi g 80 k := by
        rw [sa.2 _ _ rfl, (sc.1 k hk).1, ← sm0.1 (k) (by omega), Nat.zero_add]
      have i1 : k < 214 := by omega
      simp (disch := omega) only [s218_0, s218_1, s218_2, s218_3, s218_6, s218_9, s218_10, s218_11, s218_12, s218_15, s218_18, s218_19, s218_22, s218_23, s218_26, s218_27, s218_30, s218_31, s218_34, s218_35, s218_36, s218_37_0, s218_37_1, s218_37_2, s218_37_3, s218_68, s218_69, s218_72, s218_73, s218_74, s218_75, s218_76, s218_77, s218_78, s218_81, s218_83, s218_84, s218_85, s218_86, s218_87, s218_88, s218_91, s218_93, s218_94, s218_95, s218_96, s218_97, s218_98, s218_99, s218_100, s218_103, s218_104, s218_105, s218_108, s218_110, s218_111, s218_112, s218_113, true_or, or_true, or_false, false_or, or_self, Int32.reduceLT, Int32.reduceLE, Nat.add_zero, Nat.zero_add, Nat.not_lt_zero, not_false_eq_true, not_true_eq_false, and_assoc, kl_q, kl_i, kl_r, kl_n, kl_0, kl_l, cs_0, cs_i, cs_r, cs_n, cs_l, aRf_s, aRf_n, gi_wl, gi_wr, gl_wi, gl_wl, gl_wr, gr_wi, gr_wl, gr_wr, sh_wi, sh_wl, sh_wr, gl_cp, gr_cp, sh_cp, gl_rw, gr_rw, sh_rw, gi_rl, gr_rl, sh_rl, Option.toList_some, Option.toList_none, List.nil_append, List.cons_append, List.append_nil, Option.some.injEq, Prod.mk.injEq, and_true, true_and, and_self, if_true, if_false, reduceCtorEq, Nat.reduceLeDiff, Nat.reduceLT, Nat.reduceAdd, Nat.reduceEqDiff, false_and, and_false, exists_const, exists_eq_left, exists_eq_left', exists_and_left, and_assoc, nltL, nltR, nleL, nleR, neqL, neqR, naL, naR, nmL, nmR, nI_ltI, nI_leI, nI_eq, nI_add, nI_mul, nI_clamp, n0l, n0r, nm1, nm1', nm1l, nm1r, nm1g, nsL, nI_m1, Nat.add_sub_cancel, vpn, vpL, nclL, le32, leLL, leLN, leNL, leNN, inA, nb0, nb1, gi_wi_n, gi_wi_e, gi_rw_n, gi_rw_e, aWi_rw, ifl, ifl_, ifle, ifle_, ifq, ifq_, ifnq, ifnq_, ifnl, ifnl_, ifnle, ifnle_, ifl, ifl_, ifle, ifle_, ifq, ifq_, ifnq, ifnq_, ifnl, ifnl_, ifnle, ifnle_, z399 ok, z416 ok, r399_27 ok, m_isMan ok hM' r2, ha, m_in, hi, bI_0, bI_1, e, i1]
      refine hq _ _ (sx 0) (Or.inr ⟨fun q => ?_, gi_wi_e, ?_⟩)
      · rcases (pmt_iff rg).mp q with q | q
        · rw [ha] at q
          cases q
        · cases q
      · unfold aPMv
        rw [nI_clamp (by omega)]
        rfl
    · have hi : inR 1 0 4 = true := by decide
      have e : gi h 416 (6 + k) = gi g 81 k := by
        rw [sa.2 _ _ rfl, (sc.1 k hk).2.1, ← sm0.1 (6 + k) (by omega), Nat.zero_add]
      have i1 : 6 + k < 214 := by omega
      simp (disch := omega) only [s218_0, s218_1, s218_2, s218_3, s218_6, s218_9, s218_10, s218_11, s218_12, s218_15, s218_18, s218_19, s218_22, s218_23, s218_26, s218_27, s218_30, s218_31, s218_34, s218_35, s218_36, s218_37_0, s218_37_1, s218_37_2, s218_37_3, s218_68, s218_69, s218_72, s218_73, s218_74, s218_75, s218_76, s218_77, s218_78, s218_81, s218_83, s218_84, s218_85, s218_86, s218_87, s218_88, s218_91, s218_93, s218_94, s218_95, s218_96, s218_97, s218_98, s218_99, s218_100, s218_103, s218_104, s218_105, s218_108, s218_110, s218_111, s218_112, s218_113, true_or, or_true, or_false, false_or, or_self, Int32.reduceLT, Int32.reduceLE, Nat.add_zero, Nat.zero_add, Nat.not_lt_zero, not_false_eq_true, not_true_eq_false, and_assoc, kl_q, kl_i, kl_r, kl_n, kl_0, kl_l, cs_0, cs_i, cs_r, cs_n, cs_l, aRf_s, aRf_n, gi_wl, gi_wr, gl_wi, gl_wl, gl_wr, gr_wi, gr_wl, gr_wr, sh_wi, sh_wl, sh_wr, gl_cp, gr_cp, sh_cp, gl_rw, gr_rw, sh_rw, gi_rl, gr_rl, sh_rl, Option.toList_some, Option.toList_none, List.nil_append, List.cons_append, List.append_nil, Option.some.injEq, Prod.mk.injEq, and_true, true_and, and_self, if_true, if_false, reduceCtorEq, Nat.reduceLeDiff, Nat.reduceLT, Nat.reduceAdd, Nat.reduceEqDiff, false_and, and_false, exists_const, exists_eq_left, exists_eq_left', exists_and_left, and_assoc, nltL, nltR, nleL, nleR, neqL, neqR, naL, naR, nmL, nmR, nI_ltI, nI_leI, nI_eq, nI_add, nI_mul, nI_clamp, n0l, n0r, nm1, nm1', nm1l, nm1r, nm1g, nsL, nI_m1, Nat.add_sub_cancel, vpn, vpL, nclL, le32, leLL, leLN, leNL, leNN, inA, nb0, nb1, gi_wi_n, gi_wi_e, gi_rw_n, gi_rw_e, aWi_rw, ifl, ifl_, ifle, ifle_, ifq, ifq_, ifnq, ifnq_, ifnl, ifnl_, ifnle, ifnle_, ifl, ifl_, ifle, ifle_, ifq, ifq_, ifnq, ifnq_, ifnl, ifnl_, ifnle, ifnle_, z399 ok, z416 ok, r399_27 ok, m_isMan ok hM' r2, ha, m_in, hi, bI_0, bI_1, e, i1]
      refine hq _ _ (sx 0) (Or.inr ⟨fun q => ?_, gi_wi_e, ?_⟩)
      · rcases (pmt_iff rg).mp q with q | q
        · rw [ha] at q
          cases q
        · cases q
      · unfold aPMv
        rw [nI_clamp (by omega)]
        rfl
    · have hi : inR 2 0 4 = true := by decide
      have e : gi h 416 (12 + k) = gi g 82 k := by
        rw [sa.2 _ _ rfl, (sc.1 k hk).2.2.1, ← sm0.1 (12 + k) (by omega), Nat.zero_add]
      have i1 : 12 + k < 214 := by omega
      simp (disch := omega) only [s218_0, s218_1, s218_2, s218_3, s218_6, s218_9, s218_10, s218_11, s218_12, s218_15, s218_18, s218_19, s218_22, s218_23, s218_26, s218_27, s218_30, s218_31, s218_34, s218_35, s218_36, s218_37_0, s218_37_1, s218_37_2, s218_37_3, s218_68, s218_69, s218_72, s218_73, s218_74, s218_75, s218_76, s218_77, s218_78, s218_81, s218_83, s218_84, s218_85, s218_86, s218_87, s218_88, s218_91, s218_93, s218_94, s218_95, s218_96, s218_97, s218_98, s218_99, s218_100, s218_103, s218_104, s218_105, s218_108, s218_110, s218_111, s218_112, s218_113, true_or, or_true, or_false, false_or, or_self, Int32.reduceLT, Int32.reduceLE, Nat.add_zero, Nat.zero_add, Nat.not_lt_zero, not_false_eq_true, not_true_eq_false, and_assoc, kl_q, kl_i, kl_r, kl_n, kl_0, kl_l, cs_0, cs_i, cs_r, cs_n, cs_l, aRf_s, aRf_n, gi_wl, gi_wr, gl_wi, gl_wl, gl_wr, gr_wi, gr_wl, gr_wr, sh_wi, sh_wl, sh_wr, gl_cp, gr_cp, sh_cp, gl_rw, gr_rw, sh_rw, gi_rl, gr_rl, sh_rl, Option.toList_some, Option.toList_none, List.nil_append, List.cons_append, List.append_nil, Option.some.injEq, Prod.mk.injEq, and_true, true_and, and_self, if_true, if_false, reduceCtorEq, Nat.reduceLeDiff, Nat.reduceLT, Nat.reduceAdd, Nat.reduceEqDiff, false_and, and_false, exists_const, exists_eq_left, exists_eq_left', exists_and_left, and_assoc, nltL, nltR, nleL, nleR, neqL, neqR, naL, naR, nmL, nmR, nI_ltI, nI_leI, nI_eq, nI_add, nI_mul, nI_clamp, n0l, n0r, nm1, nm1', nm1l, nm1r, nm1g, nsL, nI_m1, Nat.add_sub_cancel, vpn, vpL, nclL, le32, leLL, leLN, leNL, leNN, inA, nb0, nb1, gi_wi_n, gi_wi_e, gi_rw_n, gi_rw_e, aWi_rw, ifl, ifl_, ifle, ifle_, ifq, ifq_, ifnq, ifnq_, ifnl, ifnl_, ifnle, ifnle_, ifl, ifl_, ifle, ifle_, ifq, ifq_, ifnq, ifnq_, ifnl, ifnl_, ifnle, ifnle_, z399 ok, z416 ok, r399_27 ok, m_isMan ok hM' r2, ha, m_in, hi, bI_0, bI_1, e, i1]
      refine hq _ _ (sx 0) (Or.inr ⟨fun q => ?_, gi_wi_e, ?_⟩)
      · rcases (pmt_iff rg).mp q with q | q
        · rw [ha] at q
          cases q
        · cases q
      · unfold aPMv
        rw [nI_clamp (by omega)]
        rfl
    · have hi : inR 3 0 4 = true := by decide
      have t14 := it.2.2.2.2.2.2.2.2.2.2.2.2.2.1 k hk
      have e : gi (aWi h 399 0 0) 414 (4 * k + 3) = gi g (61 + k) 3 := by
        rw [gi_wi_n (by omega), sa.2 _ _ rfl, t14.1]
      have ok' : OK (aWi h 399 0 0) := (sx 0).1
      have mo : ∀ {d : Nat} {Q : Option Value → aM → Prop}, AW d 206 0 [some (.ref 399), some (.int (nI k)), some (.int 3)] [] (aWi h 399 0 0) Q ↔ Q (some (.int (gi g (61 + k) 3))) (aWi h 399 0 0) := m_of ok' (show k < 6 by omega) (show 3 < 4 by decide) e
      simp (disch := omega) only [s218_0, s218_1, s218_2, s218_3, s218_6, s218_9, s218_10, s218_11, s218_12, s218_15, s218_18, s218_19, s218_22, s218_23, s218_26, s218_27, s218_30, s218_31, s218_34, s218_35, s218_36, s218_37_0, s218_37_1, s218_37_2, s218_37_3, s218_68, s218_69, s218_72, s218_73, s218_74, s218_75, s218_76, s218_77, s218_78, s218_81, s218_83, s218_84, s218_85, s218_86, s218_87, s218_88, s218_91, s218_93, s218_94, s218_95, s218_96, s218_97, s218_98, s218_99, s218_100, s218_103, s218_104, s218_105, s218_108, s218_110, s218_111, s218_112, s218_113, true_or, or_true, or_false, false_or, or_self, Int32.reduceLT, Int32.reduceLE, Nat.add_zero, Nat.zero_add, Nat.not_lt_zero, not_false_eq_true, not_true_eq_false, and_assoc, kl_q, kl_i, kl_r, kl_n, kl_0, kl_l, cs_0, cs_i, cs_r, cs_n, cs_l, aRf_s, aRf_n, gi_wl, gi_wr, gl_wi, gl_wl, gl_wr, gr_wi, gr_wl, gr_wr, sh_wi, sh_wl, sh_wr, gl_cp, gr_cp, sh_cp, gl_rw, gr_rw, sh_rw, gi_rl, gr_rl, sh_rl, Option.toList_some, Option.toList_none, List.nil_append, List.cons_append, List.append_nil, Option.some.injEq, Prod.mk.injEq, and_true, true_and, and_self, if_true, if_false, reduceCtorEq, Nat.reduceLeDiff, Nat.reduceLT, Nat.reduceAdd, Nat.reduceEqDiff, false_and, and_false, exists_const, exists_eq_left, exists_eq_left', exists_and_left, and_assoc, nltL, nltR, nleL, nleR, neqL, neqR, naL, naR, nmL, nmR, nI_ltI, nI_leI, nI_eq, nI_add, nI_mul, nI_clamp, n0l, n0r, nm1, nm1', nm1l, nm1r, nm1g, nsL, nI_m1, Nat.add_sub_cancel, vpn, vpL, nclL, le32, leLL, leLN, leNL, leNN, inA, nb0, nb1, gi_wi_n, gi_wi_e, gi_rw_n, gi_rw_e, aWi_rw, ifl, ifl_, ifle, ifle_, ifq, ifq_, ifnq, ifnq_, ifnl, ifnl_, ifnle, ifnle_, ifl, ifl_, ifle, ifle_, ifq, ifq_, ifnq, ifnq_, ifnl, ifnl_, ifnle, ifnle_, z399 ok, r399_27 ok, m_isMan ok hM' r2, ha, m_in, hi, bI_0, bI_1, mo]
      refine hq _ _ (sx 0) (Or.inr ⟨fun q => ?_, gi_wi_e, ?_⟩)
      · rcases (pmt_iff rg).mp q with q | q
        · rw [ha] at q
          cases q
        · cases q
      · unfold aPMv
        rw [nI_clamp (by omega)]
        rfl
    · have hi : inR 4 0 4 = true := by decide
      have e : gi h 416 (18 + k) = gi g 83 k := by
        rw [sa.2 _ _ rfl, (sc.1 k hk).2.2.2, ← sm0.1 (18 + k) (by omega), Nat.zero_add]
      have i1 : 18 + k < 214 := by omega
      simp (disch := omega) only [s218_0, s218_1, s218_2, s218_3, s218_6, s218_9, s218_10, s218_11, s218_12, s218_15, s218_18, s218_19, s218_22, s218_23, s218_26, s218_27, s218_30, s218_31, s218_34, s218_35, s218_36, s218_37_0, s218_37_1, s218_37_2, s218_37_3, s218_68, s218_69, s218_72, s218_73, s218_74, s218_75, s218_76, s218_77, s218_78, s218_81, s218_83, s218_84, s218_85, s218_86, s218_87, s218_88, s218_91, s218_93, s218_94, s218_95, s218_96, s218_97, s218_98, s218_99, s218_100, s218_103, s218_104, s218_105, s218_108, s218_110, s218_111, s218_112, s218_113, true_or, or_true, or_false, false_or, or_self, Int32.reduceLT, Int32.reduceLE, Nat.add_zero, Nat.zero_add, Nat.not_lt_zero, not_false_eq_true, not_true_eq_false, and_assoc, kl_q, kl_i, kl_r, kl_n, kl_0, kl_l, cs_0, cs_i, cs_r, cs_n, cs_l, aRf_s, aRf_n, gi_wl, gi_wr, gl_wi, gl_wl, gl_wr, gr_wi, gr_wl, gr_wr, sh_wi, sh_wl, sh_wr, gl_cp, gr_cp, sh_cp, gl_rw, gr_rw, sh_rw, gi_rl, gr_rl, sh_rl, Option.toList_some, Option.toList_none, List.nil_append, List.cons_append, List.append_nil, Option.some.injEq, Prod.mk.injEq, and_true, true_and, and_self, if_true, if_false, reduceCtorEq, Nat.reduceLeDiff, Nat.reduceLT, Nat.reduceAdd, Nat.reduceEqDiff, false_and, and_false, exists_const, exists_eq_left, exists_eq_left', exists_and_left, and_assoc, nltL, nltR, nleL, nleR, neqL, neqR, naL, naR, nmL, nmR, nI_ltI, nI_leI, nI_eq, nI_add, nI_mul, nI_clamp, n0l, n0r, nm1, nm1', nm1l, nm1r, nm1g, nsL, nI_m1, Nat.add_sub_cancel, vpn, vpL, nclL, le32, leLL, leLN, leNL, leNN, inA, nb0, nb1, gi_wi_n, gi_wi_e, gi_rw_n, gi_rw_e, aWi_rw, ifl, ifl_, ifle, ifle_, ifq, ifq_, ifnq, ifnq_, ifnl, ifnl_, ifnle, ifnle_, ifl, ifl_, ifle, ifle_, ifq, ifq_, ifnq, ifnq_, ifnl, ifnl_, ifnle, ifnle_, z399 ok, z416 ok, r399_27 ok, m_isMan ok hM' r2, ha, m_in, hi, bI_0, bI_1, s218_37_d (x := 4) (by decide), e, i1]
      refine hq _ _ (sx 0) (Or.inr ⟨fun q => ?_, gi_wi_e, ?_⟩)
      · rcases (pmt_iff rg).mp q with q | q
        · rw [ha] at q
          cases q
        · cases q
      · unfold aPMv
        rw [nI_clamp (by omega)]
        rfl
end MAN
