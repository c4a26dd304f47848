-- deps: 48.who
section Q22
variable {d : Nat} {g h : aM} {Q : Option Value → aM → Prop} {M F L W N D P n gg : Nat}
theorem m_layRows (c : Cx0 g M F L W N P) (s : Same g h) (hg : gg ≤ 9) (hq : ∀ h', Same g h' → RwW g h' M F L W P gg 10 → Q none h') : AW (d + 10) 252 0 [some (.ref 399), some (.int (nI gg)), none, none] [] h Q := by
  have it := c.2.1
  have hM : M ≤ 6 := it.1
  have hM' : M ≤ 10 := by omega
  have hF : F ≤ 5 := it.2.1
  have hF' : F ≤ 10 := by omega
  have hL : L ≤ 30 := it.2.2.1
  have hW : W ≤ 20 := it.2.2.2.1
  have ok0 := s.1
  simp (disch := omega) only [s252_0, s252_1, s252_3, s252_5, s252_8, s252_9, s252_12, s252_13, s252_14, s252_17, s252_18, s252_19, s252_20, s252_23, s252_26, s252_27, s252_29, s252_31, s252_34, s252_35, s252_36, s252_39, s252_42, s252_43, s252_46, s252_47, s252_49, s252_52, s252_53, s252_56, s252_57, s252_58, s252_59, s252_60, s252_63, s252_64, s252_65, s252_66, s252_67, s252_68, s252_71, s252_72, s252_73, s252_76, s252_77, s252_78, s252_81, s252_82, s252_84, s252_86, s252_89, s252_90, s252_93, s252_95, s252_96, s252_97, s252_98, s252_99, s252_100, s252_101, s252_104, s252_107, s252_108, s252_111, s252_112, s252_113, s252_116, s252_117, s252_118, s252_121, s252_124, s252_127, s252_130, s252_131, s252_133, s252_135, s252_138, s252_139, s252_142, s252_143, s252_144, s252_147, s252_148, s252_149, s252_150, s252_153, s252_156, true_or, or_true, or_false, false_or, or_self, Int32.reduceLT, Int32.reduceLE, Nat.add_zero, Nat.zero_add, Nat.not_lt_zero, not_false_eq_true, not_true_eq_false, and_assoc, kl_q, kl_i, kl_r, kl_n, kl_0, kl_l, cs_0, cs_i, cs_r, cs_n, cs_l, aRf_s, aRf_n, gi_wl, gi_wr, gl_wi, gl_wl, gl_wr, gr_wi, gr_wl, gr_wr, sh_wi, sh_wl, sh_wr, gl_cp, gr_cp, sh_cp, gl_rw, gr_rw, sh_rw, gi_rl, gr_rl, sh_rl, Option.toList_some, Option.toList_none, List.nil_append, List.cons_append, List.append_nil, Option.some.injEq, Prod.mk.injEq, and_true, true_and, and_self, if_true, if_false, reduceCtorEq, Nat.reduceLeDiff, Nat.reduceLT, Nat.reduceAdd, Nat.reduceEqDiff, false_and, and_false, exists_const, exists_eq_left, exists_eq_left', exists_and_left, and_assoc, nltL, nltR, nleL, nleR, neqL, neqR, naL, naR, nmL, nmR, nI_ltI, nI_leI, nI_eq, nI_add, nI_mul, nI_clamp, n0l, n0r, nm1, nm1', nm1l, nm1r, nm1g, nsL, nI_m1, Nat.add_sub_cancel, vpn, vpL, nclL, le32, leLL, leLN, leNL, leNN, inA, nb0, nb1, gi_wi_n, gi_wi_e, gi_rw_n, gi_rw_e, aWi_rw, ifl, ifl_, ifle, ifle_, ifq, ifq_, ifnq, ifnq_, ifnl, ifnl_, ifnle, ifnle_]
  refine aLoop 31 (fun k lv h' => lv = [some (.ref 399), some (.int (nI gg)), some (.int (nI k)), none] ∧ Same g h' ∧ ∀ j, j < k → gi h' 425 j = gi g 416 j) ?_ ?_ 0 _ _ (Nat.zero_le _) ⟨rfl, s, fun j hj => by omega⟩
  · rintro k lv h' hk ⟨rfl, s1, p1⟩ hk2
    have ok := s1.1
    have e1 : ¬ 31 ≤ k := by omega
    have e2 : gi h' 416 k = gi g 416 k := s1.2 _ _ rfl
    have a1 : k < 214 := by omega
    rw [s252_2]
    simp (disch := omega) only [s252_0, s252_1, s252_3, s252_5, s252_8, s252_9, s252_12, s252_13, s252_14, s252_17, s252_18, s252_19, s252_20, s252_23, s252_26, s252_27, s252_29, s252_31, s252_34, s252_35, s252_36, s252_39, s252_42, s252_43, s252_46, s252_47, s252_49, s252_52, s252_53, s252_56, s252_57, s252_58, s252_59, s252_60, s252_63, s252_64, s252_65, s252_66, s252_67, s252_68, s252_71, s252_72, s252_73, s252_76, s252_77, s252_78, s252_81, s252_82, s252_84, s252_86, s252_89, s252_90, s252_93, s252_95, s252_96, s252_97, s252_98, s252_99, s252_100, s252_101, s252_104, s252_107, s252_108, s252_111, s252_112, s252_113, s252_116, s252_117, s252_118, s252_121, s252_124, s252_127, s252_130, s252_131, s252_133, s252_135, s252_138, s252_139, s252_142, s252_143, s252_144, s252_147, s252_148, s252_149, s252_150, s252_153, s252_156, true_or, or_true, or_false, false_or, or_self, Int32.reduceLT, Int32.reduceLE, Nat.add_zero, Nat.zero_add, Nat.not_lt_zero, not_false_eq_true, not_true_eq_false, and_assoc, kl_q, kl_i, kl_r, kl_n, kl_0, kl_l, cs_0, cs_i, cs_r, cs_n, cs_l, aRf_s, aRf_n, gi_wl, gi_wr, gl_wi, gl_wl, gl_wr, gr_wi, gr_wl, gr_wr, sh_wi, sh_wl, sh_wr, gl_cp, gr_cp, sh_cp, gl_rw, gr_rw, sh_rw, gi_rl, gr_rl, sh_rl, Option.toList_some, Option.toList_none, List.nil_append, List.cons_append, List.append_nil, Option.some.injEq, Prod.mk.injEq, and_true, true_and, and_self, if_true, if_false, reduceCtorEq, Nat.reduceLeDiff, Nat.reduceLT, Nat.reduceAdd, Nat.reduceEqDiff, false_and, and_false, exists_const, exists_eq_left, exists_eq_left', exists_and_left, and_assoc, nltL, nltR, nleL, nleR, neqL, neqR, naL, naR, nmL, nmR, nI_ltI, nI_leI, nI_eq, nI_add, nI_mul, nI_clamp, n0l, n0r, nm1, nm1', nm1l, nm1r, nm1g, nsL, nI_m1, Nat.add_sub_cancel, vpn, vpL, nclL, le32, leLL, leLN, leNL, leNN, inA, nb0, nb1, gi_wi_n, gi_wi_e, gi_rw_n, gi_rw_e, aWi_rw, ifl, ifl_, ifle, ifle_, ifq, ifq_, ifnq, ifnq_, ifnl, ifnl_, ifnle, ifnle_, z399 ok, z416 ok, z425 ok, r399_27 ok, r399_45 ok, e1, e2, a1, hk]
    refine hk2 _ _ ⟨rfl, s1.wi rfl, fun j hj => ?_⟩
    by_cases hjk : j = k
    · subst hjk
      rw [gi_wi_e]
    · rw [gi_wi_n (by omega)]
      exact p1 j (by omega)
  · rintro lv h1 ⟨rfl, s1, p1⟩
    rw [s252_2]
    simp (disch := omega) only [s252_0, s252_1, s252_3, s252_5, s252_8, s252_9, s252_12, s252_13, s252_14, s252_17, s252_18, s252_19, s252_20, s252_23, s252_26, s252_27, s252_29, s252_31, s252_34, s252_35, s252_36, s252_39, s252_42, s252_43, s252_46, s252_47, s252_49, s252_52, s252_53, s252_56, s252_57, s252_58, s252_59, s252_60, s252_63, s252_64, s252_65, s252_66, s252_67, s252_68, s252_71, s252_72, s252_73, s252_76, s252_77, s252_78, s252_81, s252_82, s252_84, s252_86, s252_89, s252_90, s252_93, s252_95, s252_96, s252_97, s252_98, s252_99, s252_100, s252_101, s252_104, s252_107, s252_108, s252_111, s252_112, s252_113, s252_116, s252_117, s252_118, s252_121, s252_124, s252_127, s252_130, s252_131, s252_133, s252_135, s252_138, s252_139, s252_142, s252_143, s252_144, s252_147, s252_148, s252_149, s252_150, s252_153, s252_156, true_or, or_true, or_false, false_or, or_self, Int32.reduceLT, Int32.reduceLE, Nat.add_zero, Nat.zero_add, Nat.not_lt_zero, not_false_eq_true, not_true_eq_false, and_assoc, kl_q, kl_i, kl_r, kl_n, kl_0, kl_l, cs_0, cs_i, cs_r, cs_n, cs_l, aRf_s, aRf_n, gi_wl, gi_wr, gl_wi, gl_wl, gl_wr, gr_wi, gr_wl, gr_wr, sh_wi, sh_wl, sh_wr, gl_cp, gr_cp, sh_cp, gl_rw, gr_rw, sh_rw, gi_rl, gr_rl, sh_rl, Option.toList_some, Option.toList_none, List.nil_append, List.cons_append, List.append_nil, Option.some.injEq, Prod.mk.injEq, and_true, true_and, and_self, if_true, if_false, reduceCtorEq, Nat.reduceLeDiff, Nat.reduceLT, Nat.reduceAdd, Nat.reduceEqDiff, false_and, and_false, exists_const, exists_eq_left, exists_eq_left', exists_and_left, and_assoc, nltL, nltR, nleL, nleR, neqL, neqR, naL, naR, nmL, nmR, nI_ltI, nI_leI, nI_eq, nI_add, nI_mul, nI_clamp, n0l, n0r, nm1, nm1', nm1l, nm1r, nm1g, nsL, nI_m1, Nat.add_sub_cancel, vpn, vpL, nclL, le32, leLL, leLN, leNL, leNN, inA, nb0, nb1, gi_wi_n, gi_wi_e, gi_rw_n, gi_rw_e, aWi_rw, ifl, ifl_, ifle, ifle_, ifq, ifq_, ifnq, ifnq_, ifnl, ifnl_, ifnle, ifnle_, Nat.le_refl]
    refine aLoop 10 (fun w lv h' => ∃ z, lv = [some (.ref 399), some (.int (nI gg)), some (.int (nI w)), z] ∧ Oth g h' p31 ∧ (∀ j, j < 31 → gi h' 425 j = gi g 416 j) ∧ RwW g h' M F L W P gg w) ?_ ?_ 0 _ _ (Nat.zero_le _) ⟨_, rfl, s1.oth _, p1, fun w hw => by omega⟩
    · rintro w lv h' hw ⟨z, rfl, o1, p2, p3⟩ hk
      have ok := o1.1.1
      have e1 : ¬ 9 < w := by omega
      have r2 : gi h' 399 25 = nI M := by rw [o1.1.2 _ _ rfl (by decide), it.2.2.2.2.2.2.1]
      rw [s252_28]
      cases hwB : whoB M w
      · simp (disch := omega) only [s252_0, s252_1, s252_3, s252_5, s252_8, s252_9, s252_12, s252_13, s252_14, s252_17, s252_18, s252_19, s252_20, s252_23, s252_26, s252_27, s252_29, s252_31, s252_34, s252_35, s252_36, s252_39, s252_42, s252_43, s252_46, s252_47, s252_49, s252_52, s252_53, s252_56, s252_57, s252_58, s252_59, s252_60, s252_63, s252_64, s252_65, s252_66, s252_67, s252_68, s252_71, s252_72, s252_73, s252_76, s252_77, s252_78, s252_81, s252_82, s252_84, s252_86, s252_89, s252_90, s252_93, s252_95, s252_96, s252_97, s252_98, s252_99, s252_100, s252_101, s252_104, s252_107, s252_108, s252_111, s252_112, s252_113, s252_116, s252_117, s252_118, s252_121, s252_124, s252_127, s252_130, s252_131, s252_133, s252_135, s252_138, s252_139, s252_142, s252_143, s252_144, s252_147, s252_148, s252_149, s252_150, s252_153, s252_156, true_or, or_true, or_false, false_or, or_self, Int32.reduceLT, Int32.reduceLE, Nat.add_zero, Nat.zero_add, Nat.not_lt_zero, not_false_eq_true, not_true_eq_false, and_assoc, kl_q, kl_i, kl_r, kl_n, kl_0, kl_l, cs_0, cs_i, cs_r, cs_n, cs_l, aRf_s, aRf_n, gi_wl, gi_wr, gl_wi, gl_wl, gl_wr, gr_wi, gr_wl, gr_wr, sh_wi, sh_wl, sh_wr, gl_cp, gr_cp, sh_cp, gl_rw, gr_rw, sh_rw, gi_rl, gr_rl, sh_rl, Option.toList_some, Option.toList_none, List.nil_append, List.cons_append, List.append_nil, Option.some.injEq, Prod.mk.injEq, and_true, true_and, and_self, if_true, if_false, reduceCtorEq, Nat.reduceLeDiff, Nat.reduceLT, Nat.reduceAdd, Nat.reduceEqDiff, false_and, and_false, exists_const, exists_eq_left, exists_eq_left', exists_and_left, and_assoc, nltL, nltR, nleL, nleR, neqL, neqR, naL, naR, nmL, nmR, nI_ltI, nI_leI, nI_eq, nI_add, nI_mul, nI_clamp, n0l, n0r, nm1, nm1', nm1l, nm1r, nm1g, nsL, nI_m1, Nat.add_sub_cancel, vpn, vpL, nclL, le32, leLL, leLN, leNL, leNN, inA, nb0, nb1, gi_wi_n, gi_wi_e, gi_rw_n, gi_rw_e, aWi_rw, ifl, ifl_, ifle, ifle_, ifq, ifq_, ifnq, ifnq_, ifnl, ifnl_, ifnle, ifnle_, z399 ok, e1, m_isWho ok hM (show w < 100 by omega) r2, hwB, bI_0]
        refine hk _ _ ⟨_, rfl, o1, p2, fun w' hw' hB => ?_⟩
        by_cases h9 : w' = w
        · subst h9
          rw [hwB] at hB
          cases hB
        · exact p3 w' (by omega) hB
      · simp (disch := omega) only [s252_0, s252_1, s252_3, s252_5, s252_8, s252_9, s252_12, s252_13, s252_14, s252_17, s252_18, s252_19, s252_20, s252_23, s252_26, s252_27, s252_29, s252_31, s252_34, s252_35, s252_36, s252_39, s252_42, s252_43, s252_46, s252_47, true_or, or_true, or_false, false_or, or_self, Int32.reduceLT, Int32.reduceLE, Nat.add_zero, Nat.zero_add, Nat.not_lt_zero, not_false_eq_true, not_true_eq_false, and_assoc, kl_q, kl_i, kl_r, kl_n, kl_0, kl_l, cs_0, cs_i, cs_r, cs_n, cs_l, aRf_s, aRf_n, gi_wl, gi_wr, gl_wi, gl_wl, gl_wr, gr_wi, gr_wl, gr_wr, sh_wi, sh_wl, sh_wr, gl_cp, gr_cp, sh_cp, gl_rw, gr_rw, sh_rw, gi_rl, gr_rl, sh_rl, Option.toList_some, Option.toList_none, List.nil_append, List.cons_append, List.append_nil, Option.some.injEq, Prod.mk.injEq, and_true, true_and, and_self, if_true, if_false, reduceCtorEq, Nat.reduceLeDiff, Nat.reduceLT, Nat.reduceAdd, Nat.reduceEqDiff, false_and, and_false, exists_const, exists_eq_left, exists_eq_left', exists_and_left, and_assoc, nltL, nltR, nleL, nleR, neqL, neqR, naL, naR, nmL, nmR, nI_ltI, nI_leI, nI_eq, nI_add, nI_mul, nI_clamp, n0l, n0r, nm1, nm1', nm1l, nm1r, nm1g, nsL, nI_m1, Nat.add_sub_cancel, vpn, vpL, nclL, le32, leLL, leLN, leNL, leNN, inA, nb0, nb1, gi_wi_n, gi_wi_e, gi_rw_n, gi_rw_e, aWi_rw, ifl, ifl_, ifle, ifle_, ifq, ifq_, ifnq, ifnq_, ifnl, ifnl_, ifnle, ifnle_, z399 ok, e1, m_isWho ok hM (show w < 100 by omega) r2, hwB, bI_0, Bool.true_eq_false]
        refine m_begin it o1.1 c.2.2.2.2.2.2 (fun h2 f2 n2 => ?_)
        have o2 := o1.bg f2
        have ok := o2.1.1
        have tail : ∀ h3, Oth g h3 p31 → NowP h3 M F (stW g L gg w) (vo0 g) (dp0 g) P (mud0 g) → (∀ a k, ¬ a = 416 → gi h3 a k = gi h' a k) → AW (d + 10) 252 77 [some (.ref 399), some (.int (nI gg)), some (.int (nI w)), z] [] h3 Q := by
          intro h3 o3 n3 e3
          have ok := o3.1.1
          simp (disch := omega) only [s252_0, s252_1, s252_3, s252_5, s252_8, s252_9, s252_12, s252_13, s252_14, s252_17, s252_18, s252_19, s252_20, s252_23, s252_26, s252_27, s252_29, s252_31, s252_34, s252_35, s252_36, s252_39, s252_42, s252_43, s252_46, s252_47, s252_49, s252_52, s252_53, s252_56, s252_57, s252_58, s252_59, s252_60, s252_63, s252_64, s252_65, s252_66, s252_67, s252_68, s252_71, s252_72, s252_73, s252_76, s252_77, s252_78, s252_81, s252_82, s252_84, s252_86, s252_89, s252_90, s252_93, s252_95, s252_96, s252_97, s252_98, s252_99, s252_100, s252_101, s252_104, s252_107, s252_108, s252_111, s252_112, s252_113, s252_116, s252_117, s252_118, s252_121, s252_124, s252_127, s252_130, s252_131, s252_133, s252_135, s252_138, s252_139, s252_142, s252_143, s252_144, s252_147, s252_148, s252_149, s252_150, s252_153, s252_156, true_or, or_true, or_false, false_or, or_self, Int32.reduceLT, Int32.reduceLE, Nat.add_zero, Nat.zero_add, Nat.not_lt_zero, not_false_eq_true, not_true_eq_false, and_assoc, kl_q, kl_i, kl_r, kl_n, kl_0, kl_l, cs_0, cs_i, cs_r, cs_n, cs_l, aRf_s, aRf_n, gi_wl, gi_wr, gl_wi, gl_wl, gl_wr, gr_wi, gr_wl, gr_wr, sh_wi, sh_wl, sh_wr, gl_cp, gr_cp, sh_cp, gl_rw, gr_rw, sh_rw, gi_rl, gr_rl, sh_rl, Option.toList_some, Option.toList_none, List.nil_append, List.cons_append, List.append_nil, Option.some.injEq, Prod.mk.injEq, and_true, true_and, and_self, if_true, if_false, reduceCtorEq, Nat.reduceLeDiff, Nat.reduceLT, Nat.reduceAdd, Nat.reduceEqDiff, false_and, and_false, exists_const, exists_eq_left, exists_eq_left', exists_and_left, and_assoc, nltL, nltR, nleL, nleR, neqL, neqR, naL, naR, nmL, nmR, nI_ltI, nI_leI, nI_eq, nI_add, nI_mul, nI_clamp, n0l, n0r, nm1, nm1', nm1l, nm1r, nm1g, nsL, nI_m1, Nat.add_sub_cancel, vpn, vpL, nclL, le32, leLL, leLN, leNL, leNN, inA, nb0, nb1, gi_wi_n, gi_wi_e, gi_rw_n, gi_rw_e, aWi_rw, ifl, ifl_, ifle, ifle_, ifq, ifq_, ifnq, ifnq_, ifnl, ifnl_, ifnle, ifnle_, z399 ok]
          refine m_layNowG it c.2.2.2.1 (c.pb hg hwB) o3.1 n3 (fun h4 f4 m4 => ?_)
          have o4 := o3.fr f4
          simp (disch := omega) only [s252_0, s252_1, s252_3, s252_5, s252_8, s252_9, s252_12, s252_13, s252_14, s252_17, s252_18, s252_19, s252_20, s252_23, s252_26, s252_27, s252_29, s252_31, s252_34, s252_35, s252_36, s252_39, s252_42, s252_43, s252_46, s252_47, s252_49, s252_52, s252_53, s252_56, s252_57, s252_58, s252_59, s252_60, s252_63, s252_64, s252_65, s252_66, s252_67, s252_68, s252_71, s252_72, s252_73, s252_76, s252_77, s252_78, s252_81, s252_82, s252_84, s252_86, s252_89, s252_90, s252_93, s252_95, s252_96, s252_97, s252_98, s252_99, s252_100, s252_101, s252_104, s252_107, s252_108, s252_111, s252_112, s252_113, s252_116, s252_117, s252_118, s252_121, s252_124, s252_127, s252_130, s252_131, s252_133, s252_135, s252_138, s252_139, s252_142, s252_143, s252_144, s252_147, s252_148, s252_149, s252_150, s252_153, s252_156, true_or, or_true, or_false, false_or, or_self, Int32.reduceLT, Int32.reduceLE, Nat.add_zero, Nat.zero_add, Nat.not_lt_zero, not_false_eq_true, not_true_eq_false, and_assoc, kl_q, kl_i, kl_r, kl_n, kl_0, kl_l, cs_0, cs_i, cs_r, cs_n, cs_l, aRf_s, aRf_n, gi_wl, gi_wr, gl_wi, gl_wl, gl_wr, gr_wi, gr_wl, gr_wr, sh_wi, sh_wl, sh_wr, gl_cp, gr_cp, sh_cp, gl_rw, gr_rw, sh_rw, gi_rl, gr_rl, sh_rl, Option.toList_some, Option.toList_none, List.nil_append, List.cons_append, List.append_nil, Option.some.injEq, Prod.mk.injEq, and_true, true_and, and_self, if_true, if_false, reduceCtorEq, Nat.reduceLeDiff, Nat.reduceLT, Nat.reduceAdd, Nat.reduceEqDiff, false_and, and_false, exists_const, exists_eq_left, exists_eq_left', exists_and_left, and_assoc, nltL, nltR, nleL, nleR, neqL, neqR, naL, naR, nmL, nmR, nI_ltI, nI_leI, nI_eq, nI_add, nI_mul, nI_clamp, n0l, n0r, nm1, nm1', nm1l, nm1r, nm1g, nsL, nI_m1, Nat.add_sub_cancel, vpn, vpL, nclL, le32, leLL, leLN, leNL, leNN, inA, nb0, nb1, gi_wi_n, gi_wi_e, gi_rw_n, gi_rw_e, aWi_rw, ifl, ifl_, ifle, ifle_, ifq, ifq_, ifnq, ifnq_, ifnl, ifnl_, ifnle, ifnle_]
          refine m_rowI o4.1.1 hw (twW_len (g := g) (M := M) (F := F) (L := L) (P := P) (gg := gg) (w := w) hW) m4 (fun h5 z5 q5 => ?_)
          obtain ⟨k1, k2, k3, k4, k5, k6⟩ := q5
          simp (disch := omega) only [s252_124, s252_127, true_or, or_true, or_false, false_or, or_self, Int32.reduceLT, Int32.reduceLE, Nat.add_zero, Nat.zero_add, Nat.not_lt_zero, not_false_eq_true, not_true_eq_false, and_assoc, kl_q, kl_i, kl_r, kl_n, kl_0, kl_l, cs_0, cs_i, cs_r, cs_n, cs_l, aRf_s, aRf_n, gi_wl, gi_wr, gl_wi, gl_wl, gl_wr, gr_wi, gr_wl, gr_wr, sh_wi, sh_wl, sh_wr, gl_cp, gr_cp, sh_cp, gl_rw, gr_rw, sh_rw, gi_rl, gr_rl, sh_rl, Option.toList_some, Option.toList_none, List.nil_append, List.cons_append, List.append_nil, Option.some.injEq, Prod.mk.injEq, and_true, true_and, and_self, if_true, if_false, reduceCtorEq, Nat.reduceLeDiff, Nat.reduceLT, Nat.reduceAdd, Nat.reduceEqDiff, false_and, and_false, exists_const, exists_eq_left, exists_eq_left', exists_and_left, and_assoc, nltL, nltR, nleL, nleR, neqL, neqR, naL, naR, nmL, nmR, nI_ltI, nI_leI, nI_eq, nI_add, nI_mul, nI_clamp, n0l, n0r, nm1, nm1', nm1l, nm1r, nm1g, nsL, nI_m1, Nat.add_sub_cancel, vpn, vpL, nclL, le32, leLL, leLN, leNL, leNN, inA, nb0, nb1, gi_wi_n, gi_wi_e, gi_rw_n, gi_rw_e, aWi_rw, ifl, ifl_, ifle, ifle_, ifq, ifq_, ifnq, ifnq_, ifnl, ifnl_, ifnle, ifnle_]
          refine hk _ _ ⟨_, rfl, ⟨⟨k1, fun a k q r => ?_⟩, fun k q => ?_⟩, fun j hj => ?_, fun w' hw' hB i hi => ?_⟩
          · by_cases ha : a = 426
            · subst ha
              cases q
            · rw [k4 a k ha, o4.1.2 a k q r]
          · rw [k4 _ _ (by decide), o4.2 k q]
          · rw [k4 _ _ (by decide), f4.2.2.2 _ _ rfl, e3 _ _ (by decide), p2 j hj]
          · by_cases h9 : w' = w
            · subst h9
              exact k6 i hi
            · rw [k5 _ (by omega), f4.2.2.2 _ _ rfl, e3 _ _ (by decide)]
              exact p3 w' (by omega) hB i hi
        have e2 : ∀ a k, ¬ a = 416 → gi h2 a k = gi h' a k := fun a k q => f2.2.2.2 a k (by unfold bgX; simp [q])
        by_cases h9 : w = 9
        · simp (disch := omega) only [s252_49, s252_52, s252_53, s252_56, s252_57, s252_58, s252_59, s252_60, s252_63, s252_64, s252_65, s252_66, s252_67, s252_68, s252_71, s252_72, s252_73, s252_76, true_or, or_true, or_false, false_or, or_self, Int32.reduceLT, Int32.reduceLE, Nat.add_zero, Nat.zero_add, Nat.not_lt_zero, not_false_eq_true, not_true_eq_false, and_assoc, kl_q, kl_i, kl_r, kl_n, kl_0, kl_l, cs_0, cs_i, cs_r, cs_n, cs_l, aRf_s, aRf_n, gi_wl, gi_wr, gl_wi, gl_wl, gl_wr, gr_wi, gr_wl, gr_wr, sh_wi, sh_wl, sh_wr, gl_cp, gr_cp, sh_cp, gl_rw, gr_rw, sh_rw, gi_rl, gr_rl, sh_rl, Option.toList_some, Option.toList_none, List.nil_append, List.cons_append, List.append_nil, Option.some.injEq, Prod.mk.injEq, and_true, true_and, and_self, if_true, if_false, reduceCtorEq, Nat.reduceLeDiff, Nat.reduceLT, Nat.reduceAdd, Nat.reduceEqDiff, false_and, and_false, exists_const, exists_eq_left, exists_eq_left', exists_and_left, and_assoc, nltL, nltR, nleL, nleR, neqL, neqR, naL, naR, nmL, nmR, nI_ltI, nI_leI, nI_eq, nI_add, nI_mul, nI_clamp, n0l, n0r, nm1, nm1', nm1l, nm1r, nm1g, nsL, nI_m1, Nat.add_sub_cancel, vpn, vpL, nclL, le32, leLL, leLN, leNL, leNN, inA, nb0, nb1, gi_wi_n, gi_wi_e, gi_rw_n, gi_rw_e, aWi_rw, ifl, ifl_, ifle, ifle_, ifq, ifq_, ifnq, ifnq_, ifnl, ifnl_, ifnle, ifnle_, h9]
          subst h9
          exact tail h2 o2 n2 e2
        · have hwM : w < M := by
            unfold whoB at hwB
            simp [h9] at hwB
            exact hwB
          have r6 : gi h2 413 0 = nI L := by rw [o2.1.2 _ _ rfl (by decide), it.2.2.2.2.2.2.2.2.2.2.1]
          have e5 : gi h2 414 (4 * w) = st0 g w := o2.1.2 _ _ rfl (by decide)
          have a1 : w < 214 := by omega
          have a2 : 4 * w < 24 := by omega
          simp (disch := omega) only [s252_49, s252_52, s252_53, s252_56, s252_57, s252_58, s252_59, s252_60, s252_63, s252_64, s252_65, s252_66, s252_67, s252_68, s252_71, s252_72, s252_73, s252_76, s206_0, s206_1, s206_4, s206_5, s206_6, s206_7, s206_8, s206_9, s206_10, true_or, or_true, or_false, false_or, or_self, Int32.reduceLT, Int32.reduceLE, Nat.add_zero, Nat.zero_add, Nat.not_lt_zero, not_false_eq_true, not_true_eq_false, and_assoc, kl_q, kl_i, kl_r, kl_n, kl_0, kl_l, cs_0, cs_i, cs_r, cs_n, cs_l, aRf_s, aRf_n, gi_wl, gi_wr, gl_wi, gl_wl, gl_wr, gr_wi, gr_wl, gr_wr, sh_wi, sh_wl, sh_wr, gl_cp, gr_cp, sh_cp, gl_rw, gr_rw, sh_rw, gi_rl, gr_rl, sh_rl, Option.toList_some, Option.toList_none, List.nil_append, List.cons_append, List.append_nil, Option.some.injEq, Prod.mk.injEq, and_true, true_and, and_self, if_true, if_false, reduceCtorEq, Nat.reduceLeDiff, Nat.reduceLT, Nat.reduceAdd, Nat.reduceEqDiff, false_and, and_false, exists_const, exists_eq_left, exists_eq_left', exists_and_left, and_assoc, nltL, nltR, nleL, nleR, neqL, neqR, naL, naR, nmL, nmR, nI_ltI, nI_leI, nI_eq, nI_add, nI_mul, nI_clamp, n0l, n0r, nm1, nm1', nm1l, nm1r, nm1g, nsL, nI_m1, Nat.add_sub_cancel, vpn, vpL, nclL, le32, leLL, leLN, leNL, leNN, inA, nb0, nb1, gi_wi_n, gi_wi_e, gi_rw_n, gi_rw_e, aWi_rw, ifl, ifl_, ifle, ifle_, ifq, ifq_, ifnq, ifnq_, ifnl, ifnl_, ifnle, ifnle_, z399 ok, z413 ok, z414 ok, z416 ok, r399_22 ok, r399_23 ok, r399_27 ok, h9, r6, e5, a1, a2, sp_min]
          refine tail _ (o2.wi ?_) ?_ (fun a k q => ?_)
          · unfold p31
            rw [Nat.ble_eq]
            omega
          · have := n2.up (x := sgW g L gg w) hwM hM
            unfold stW
            rw [if_neg h9]
            exact this
          · rw [gi_wi_n (fun z => q z.1)]
            exact e2 a k q
    · rintro lv h' ⟨z, rfl, o1, p2, p3⟩
      rw [s252_28]
      simp (disch := omega) only [s252_0, s252_1, s252_3, s252_5, s252_8, s252_9, s252_12, s252_13, s252_14, s252_17, s252_18, s252_19, s252_20, s252_23, s252_26, s252_27, s252_29, s252_31, s252_34, s252_35, s252_36, s252_39, s252_42, s252_43, s252_46, s252_47, s252_49, s252_52, s252_53, s252_56, s252_57, s252_58, s252_59, s252_60, s252_63, s252_64, s252_65, s252_66, s252_67, s252_68, s252_71, s252_72, s252_73, s252_76, s252_77, s252_78, s252_81, s252_82, s252_84, s252_86, s252_89, s252_90, s252_93, s252_95, s252_96, s252_97, s252_98, s252_99, s252_100, s252_101, s252_104, s252_107, s252_108, s252_111, s252_112, s252_113, s252_116, s252_117, s252_118, s252_121, s252_124, s252_127, s252_130, s252_131, s252_133, s252_135, s252_138, s252_139, s252_142, s252_143, s252_144, s252_147, s252_148, s252_149, s252_150, s252_153, s252_156, true_or, or_true, or_false, false_or, or_self, Int32.reduceLT, Int32.reduceLE, Nat.add_zero, Nat.zero_add, Nat.not_lt_zero, not_false_eq_true, not_true_eq_false, and_assoc, kl_q, kl_i, kl_r, kl_n, kl_0, kl_l, cs_0, cs_i, cs_r, cs_n, cs_l, aRf_s, aRf_n, gi_wl, gi_wr, gl_wi, gl_wl, gl_wr, gr_wi, gr_wl, gr_wr, sh_wi, sh_wl, sh_wr, gl_cp, gr_cp, sh_cp, gl_rw, gr_rw, sh_rw, gi_rl, gr_rl, sh_rl, Option.toList_some, Option.toList_none, List.nil_append, List.cons_append, List.append_nil, Option.some.injEq, Prod.mk.injEq, and_true, true_and, and_self, if_true, if_false, reduceCtorEq, Nat.reduceLeDiff, Nat.reduceLT, Nat.reduceAdd, Nat.reduceEqDiff, false_and, and_false, exists_const, exists_eq_left, exists_eq_left', exists_and_left, and_assoc, nltL, nltR, nleL, nleR, neqL, neqR, naL, naR, nmL, nmR, nI_ltI, nI_leI, nI_eq, nI_add, nI_mul, nI_clamp, n0l, n0r, nm1, nm1', nm1l, nm1r, nm1g, nsL, nI_m1, Nat.add_sub_cancel, vpn, vpL, nclL, le32, leLL, leLN, leNL, leNN, inA, nb0, nb1, gi_wi_n, gi_wi_e, gi_rw_n, gi_rw_e, aWi_rw, ifl, ifl_, ifle, ifle_, ifq, ifq_, ifnq, ifnq_, ifnl, ifnl_, ifnle, ifnle_, show (9 : Nat) < 10 by omega]
      refine aLoop 31 (fun k lv h2 => ∃ z, lv = [some (.ref 399), some (.int (nI gg)), some (.int (nI k)), z] ∧ OK h2 ∧ (∀ a j, ¬ a = 416 → gi h2 a j = gi h' a j) ∧ (∀ j, ¬ j < k → gi h2 416 j = gi h' 416 j) ∧ ∀ j, j < k → gi h2 416 j = gi g 416 j) ?_ ?_ 0 _ _ (Nat.zero_le _) ⟨_, rfl, o1.1.1, fun _ _ _ => rfl, fun _ _ => rfl, fun j hj => by omega⟩
      · rintro k lv h2 hk ⟨z, rfl, ok, q1, q2, q3⟩ hk2
        have e1 : ¬ 31 ≤ k := by omega
        have e2 : gi h2 425 k = gi g 416 k := by rw [q1 _ _ (by decide), p2 k hk]
        have a1 : k < 214 := by omega
        rw [s252_132]
        simp (disch := omega) only [s252_0, s252_1, s252_3, s252_5, s252_8, s252_9, s252_12, s252_13, s252_14, s252_17, s252_18, s252_19, s252_20, s252_23, s252_26, s252_27, s252_29, s252_31, s252_34, s252_35, s252_36, s252_39, s252_42, s252_43, s252_46, s252_47, s252_49, s252_52, s252_53, s252_56, s252_57, s252_58, s252_59, s252_60, s252_63, s252_64, s252_65, s252_66, s252_67, s252_68, s252_71, s252_72, s252_73, s252_76, s252_77, s252_78, s252_81, s252_82, s252_84, s252_86, s252_89, s252_90, s252_93, s252_95, s252_96, s252_97, s252_98, s252_99, s252_100, s252_101, s252_104, s252_107, s252_108, s252_111, s252_112, s252_113, s252_116, s252_117, s252_118, s252_121, s252_124, s252_127, s252_130, s252_131, s252_133, s252_135, s252_138, s252_139, s252_142, s252_143, s252_144, s252_147, s252_148, s252_149, s252_150, s252_153, s252_156, true_or, or_true, or_false, false_or, or_self, Int32.reduceLT, Int32.reduceLE, Nat.add_zero, Nat.zero_add, Nat.not_lt_zero, not_false_eq_true, not_true_eq_false, and_assoc, kl_q, kl_i, kl_r, kl_n, kl_0, kl_l, cs_0, cs_i, cs_r, cs_n, cs_l, aRf_s, aRf_n, gi_wl, gi_wr, gl_wi, gl_wl, gl_wr, gr_wi, gr_wl, gr_wr, sh_wi, sh_wl, sh_wr, gl_cp, gr_cp, sh_cp, gl_rw, gr_rw, sh_rw, gi_rl, gr_rl, sh_rl, Option.toList_some, Option.toList_none, List.nil_append, List.cons_append, List.append_nil, Option.some.injEq, Prod.mk.injEq, and_true, true_and, and_self, if_true, if_false, reduceCtorEq, Nat.reduceLeDiff, Nat.reduceLT, Nat.reduceAdd, Nat.reduceEqDiff, false_and, and_false, exists_const, exists_eq_left, exists_eq_left', exists_and_left, and_assoc, nltL, nltR, nleL, nleR, neqL, neqR, naL, naR, nmL, nmR, nI_ltI, nI_leI, nI_eq, nI_add, nI_mul, nI_clamp, n0l, n0r, nm1, nm1', nm1l, nm1r, nm1g, nsL, nI_m1, Nat.add_sub_cancel, vpn, vpL, nclL, le32, leLL, leLN, leNL, leNN, inA, nb0, nb1, gi_wi_n, gi_wi_e, gi_rw_n, gi_rw_e, aWi_rw, ifl, ifl_, ifle, ifle_, ifq, ifq_, ifnq, ifnq_, ifnl, ifnl_, ifnle, ifnle_, z399 ok, z416 ok, z425 ok, r399_27 ok, r399_45 ok, e1, e2, a1, hk]
        refine hk2 _ _ ⟨_, rfl, ok, fun a j q => ?_, fun j hj => ?_, fun j hj => ?_⟩
        · rw [gi_wi_n (fun z => q z.1), q1 a j q]
        · rw [gi_wi_n (by omega), q2 j (by omega)]
        · by_cases hjk : j = k
          · subst hjk
            rw [gi_wi_e]
          · rw [gi_wi_n (by omega)]
            exact q3 j (by omega)
      · rintro lv h2 ⟨z, rfl, ok, q1, q2, q3⟩
        rw [s252_132]
        simp (disch := omega) only [s252_0, s252_1, s252_3, s252_5, s252_8, s252_9, s252_12, s252_13, s252_14, s252_17, s252_18, s252_19, s252_20, s252_23, s252_26, s252_27, s252_29, s252_31, s252_34, s252_35, s252_36, s252_39, s252_42, s252_43, s252_46, s252_47, s252_49, s252_52, s252_53, s252_56, s252_57, s252_58, s252_59, s252_60, s252_63, s252_64, s252_65, s252_66, s252_67, s252_68, s252_71, s252_72, s252_73, s252_76, s252_77, s252_78, s252_81, s252_82, s252_84, s252_86, s252_89, s252_90, s252_93, s252_95, s252_96, s252_97, s252_98, s252_99, s252_100, s252_101, s252_104, s252_107, s252_108, s252_111, s252_112, s252_113, s252_116, s252_117, s252_118, s252_121, s252_124, s252_127, s252_130, s252_131, s252_133, s252_135, s252_138, s252_139, s252_142, s252_143, s252_144, s252_147, s252_148, s252_149, s252_150, s252_153, s252_156, true_or, or_true, or_false, false_or, or_self, Int32.reduceLT, Int32.reduceLE, Nat.add_zero, Nat.zero_add, Nat.not_lt_zero, not_false_eq_true, not_true_eq_false, and_assoc, kl_q, kl_i, kl_r, kl_n, kl_0, kl_l, cs_0, cs_i, cs_r, cs_n, cs_l, aRf_s, aRf_n, gi_wl, gi_wr, gl_wi, gl_wl, gl_wr, gr_wi, gr_wl, gr_wr, sh_wi, sh_wl, sh_wr, gl_cp, gr_cp, sh_cp, gl_rw, gr_rw, sh_rw, gi_rl, gr_rl, sh_rl, Option.toList_some, Option.toList_none, List.nil_append, List.cons_append, List.append_nil, Option.some.injEq, Prod.mk.injEq, and_true, true_and, and_self, if_true, if_false, reduceCtorEq, Nat.reduceLeDiff, Nat.reduceLT, Nat.reduceAdd, Nat.reduceEqDiff, false_and, and_false, exists_const, exists_eq_left, exists_eq_left', exists_and_left, and_assoc, nltL, nltR, nleL, nleR, neqL, neqR, naL, naR, nmL, nmR, nI_ltI, nI_leI, nI_eq, nI_add, nI_mul, nI_clamp, n0l, n0r, nm1, nm1', nm1l, nm1r, nm1g, nsL, nI_m1, Nat.add_sub_cancel, vpn, vpL, nclL, le32, leLL, leLN, leNL, leNN, inA, nb0, nb1, gi_wi_n, gi_wi_e, gi_rw_n, gi_rw_e, aWi_rw, ifl, ifl_, ifle, ifle_, ifq, ifq_, ifnq, ifnq_, ifnl, ifnl_, ifnle, ifnle_, Nat.le_refl]
        refine hq _ ⟨ok, fun a k q => ?_⟩ (fun w hw hB i hi => ?_)
        · by_cases ha : a = 416
          · subst ha
            by_cases hk : k < 31
            · exact q3 k hk
            · rw [q2 k hk, o1.2 k]
              unfold p31
              rw [Bool.eq_false_iff]
              intro q
              have := Nat.le_of_ble_eq_true q
              omega
          · rw [q1 a k ha, o1.1.2 a k q ha]
        · rw [q1 _ _ (by decide)]
          exact p3 w hw hB i hi
/-- all that was SEEN is so -/
def fitN (t : Nat → Int32) (pa : Nat → Nat) (mn ar : Nat → Int32) : Nat → Bool
  | 0 => true
  | k + 1 => fitN t pa mn ar k && decide (bI (decide (t (pa k) = mn k)) = ar k)
theorem fitN_no {t : Nat → Int32} {pa : Nat → Nat} {mn ar : Nat → Int32} {k : Nat} (h : fitN t pa mn ar k = false) : ∀ r, fitN t pa mn ar (k + r) = false
  | 0 => h
  | r + 1 => by
    rw [← Nat.add_assoc, fitN, fitN_no h r]
    rfl
def paG (g : aM) : Nat → Nat := fun k => cN (gi g 422 k)
def mnG (g : aM) : Nat → Int32 := fun k => gi g 423 k
def arG (g : aM) : Nat → Int32 := fun k => gi g 424 k
def SO (g : aM) (M n : Nat) (T : Nat → Nat → Int32) (w : Nat) : Bool := whoB M w && fitN (T w) (paG g) (mnG g) (arG g) n
theorem m_isSo {w : Nat} {T : Nat → Nat → Int32} (hM : M ≤ 6) (it : ITold g M F L W) (is : ISee g n) (s : Same g h) (hw : w < 10) (hr : whoB M w = true → ∀ i, i < 20 → gi h 426 (20 * w + i) = T w i) (hq : Q (some (.int (bI (SO g M n T w)))) h) : AW (d + 3) 253 0 [some (.ref 399), some (.int (nI w)), none, none] [] h Q := by
  have ok := s.1
  obtain ⟨hn, i1, i2, i3⟩ := is
  have r2 : gi h 399 25 = nI M := by rw [s.2 _ _ rfl, it.2.2.2.2.2.2.1]
  have r3 : gi h 399 44 = nI n := by rw [s.2 _ _ rfl, i2]
  simp (disch := omega) only [s253_0, s253_1, s253_2, s253_5, s253_6, s253_7, s253_9, s253_10, s253_13, s253_16, s253_17, s253_20, s253_21, s253_24, s253_26, s253_27, s253_28, s253_29, s253_32, s253_33, s253_34, s253_35, s253_36, s253_37, s253_40, s253_41, s253_42, s253_45, s253_46, s253_49, s253_50, s253_51, s253_54, s253_55, s253_56, s253_59, s253_60, s253_63, s253_64, s253_65, s253_68, s253_71, s253_72, true_or, or_true, or_false, false_or, or_self, Int32.reduceLT, Int32.reduceLE, Nat.add_zero, Nat.zero_add, Nat.not_lt_zero, not_false_eq_true, not_true_eq_false, and_assoc, kl_q, kl_i, kl_r, kl_n, kl_0, kl_l, cs_0, cs_i, cs_r, cs_n, cs_l, aRf_s, aRf_n, gi_wl, gi_wr, gl_wi, gl_wl, gl_wr, gr_wi, gr_wl, gr_wr, sh_wi, sh_wl, sh_wr, gl_cp, gr_cp, sh_cp, gl_rw, gr_rw, sh_rw, gi_rl, gr_rl, sh_rl, Option.toList_some, Option.toList_none, List.nil_append, List.cons_append, List.append_nil, Option.some.injEq, Prod.mk.injEq, and_true, true_and, and_self, if_true, if_false, reduceCtorEq, Nat.reduceLeDiff, Nat.reduceLT, Nat.reduceAdd, Nat.reduceEqDiff, false_and, and_false, exists_const, exists_eq_left, exists_eq_left', exists_and_left, and_assoc, nltL, nltR, nleL, nleR, neqL, neqR, naL, naR, nmL, nmR, nI_ltI, nI_leI, nI_eq, nI_add, nI_mul, nI_clamp, n0l, n0r, nm1, nm1', nm1l, nm1r, nm1g, nsL, nI_m1, Nat.add_sub_cancel, vpn, vpL, nclL, le32, leLL, leLN, leNL, leNN, inA, nb0, nb1, gi_wi_n, gi_wi_e, gi_rw_n, gi_rw_e, aWi_rw, ifl, ifl_, ifle, ifle_, ifq, ifq_, ifnq, ifnq_, ifnl, ifnl_, ifnle, ifnle_, z399 ok, m_isWho ok hM (show w < 100 by omega) r2]
  refine aLoop n (fun k lv h' => ∃ b, lv = [some (.ref 399), some (.int (nI w)), some (.int (bI b)), some (.int (nI k))] ∧ h' = h ∧ b = (whoB M w && fitN (T w) (paG g) (mnG g) (arG g) k)) ?_ ?_ 0 _ _ (Nat.zero_le _) ⟨whoB M w, rfl, rfl, by simp [fitN]⟩
  · rintro k lv h' hk ⟨b, rfl, rfl, hb⟩ hk2
    have e1 : ¬ n ≤ k := by omega
    rw [s253_8]
    cases b
    · simp (disch := omega) only [s253_0, s253_1, s253_2, s253_5, s253_6, s253_7, s253_9, s253_10, s253_13, s253_16, s253_17, s253_20, s253_21, s253_24, s253_26, s253_27, s253_28, s253_29, s253_32, s253_33, s253_34, s253_35, s253_36, s253_37, s253_40, s253_41, s253_42, s253_45, s253_46, s253_49, s253_50, s253_51, s253_54, s253_55, s253_56, s253_59, s253_60, s253_63, s253_64, s253_65, s253_68, s253_71, s253_72, true_or, or_true, or_false, false_or, or_self, Int32.reduceLT, Int32.reduceLE, Nat.add_zero, Nat.zero_add, Nat.not_lt_zero, not_false_eq_true, not_true_eq_false, and_assoc, kl_q, kl_i, kl_r, kl_n, kl_0, kl_l, cs_0, cs_i, cs_r, cs_n, cs_l, aRf_s, aRf_n, gi_wl, gi_wr, gl_wi, gl_wl, gl_wr, gr_wi, gr_wl, gr_wr, sh_wi, sh_wl, sh_wr, gl_cp, gr_cp, sh_cp, gl_rw, gr_rw, sh_rw, gi_rl, gr_rl, sh_rl, Option.toList_some, Option.toList_none, List.nil_append, List.cons_append, List.append_nil, Option.some.injEq, Prod.mk.injEq, and_true, true_and, and_self, if_true, if_false, reduceCtorEq, Nat.reduceLeDiff, Nat.reduceLT, Nat.reduceAdd, Nat.reduceEqDiff, false_and, and_false, exists_const, exists_eq_left, exists_eq_left', exists_and_left, and_assoc, nltL, nltR, nleL, nleR, neqL, neqR, naL, naR, nmL, nmR, nI_ltI, nI_leI, nI_eq, nI_add, nI_mul, nI_clamp, n0l, n0r, nm1, nm1', nm1l, nm1r, nm1g, nsL, nI_m1, Nat.add_sub_cancel, vpn, vpL, nclL, le32, leLL, leLN, leNL, leNN, inA, nb0, nb1, gi_wi_n, gi_wi_e, gi_rw_n, gi_rw_e, aWi_rw, ifl, ifl_, ifle, ifle_, ifq, ifq_, ifnq, ifnq_, ifnl, ifnl_, ifnle, ifnle_, z399 ok, r3, e1, bI_0, nbI]
      have : SO g M n T w = false := by
        unfold SO
        cases hB : whoB M w
        · rfl
        · rw [hB] at hb
          have hb' : fitN (T w) (paG g) (mnG g) (arG g) k = false := hb.symm
          have := fitN_no hb' (n - k)
          rw [show k + (n - k) = n by omega] at this
          rw [this]
          rfl
      rw [this] at hq
      exact hq
    · have hb2 := hb.symm
      rw [Bool.and_eq_true] at hb2
      obtain ⟨j1, j2, j3, p, hp, ep⟩ := i3 k hk
      have a0 : k < 10 := by omega
      have a1 : 20 * w + p < 200 := by omega
      have c1 : gi h' 422 k = nI p := by rw [s.2 _ _ rfl, ep]
      have c2 : gi h' 423 k = mnG g k := s.2 _ _ rfl
      have c3 : gi h' 424 k = arG g k := s.2 _ _ rfl
      have c4 := hr hb2.1 p hp
      have pk : paG g k = p := by
        unfold paG cN
        rw [ep, nI_clamp (by omega)]
      have fin : ∀ b', b' = decide (bI (decide (T w (paG g k) = mnG g k)) = arG g k) → AW (d + 3) 253 8 [some (.ref 399), some (.int (nI w)), some (.int (bI b')), some (.int (nI (k + 1)))] [] h' Q := by
        intro b' hb'
        refine hk2 _ _ ⟨b', rfl, rfl, ?_⟩
        rw [hb', fitN, ← Bool.and_assoc, hb2.1, hb2.2]
        rfl
      simp (disch := omega) only [s253_0, s253_1, s253_2, s253_5, s253_6, s253_7, s253_9, s253_10, s253_13, s253_16, s253_17, s253_20, s253_21, s253_24, s253_26, s253_27, s253_28, s253_29, s253_32, s253_33, s253_34, s253_35, s253_36, s253_37, s253_40, s253_41, s253_42, s253_45, s253_46, s253_49, s253_50, s253_51, s253_54, s253_55, s253_56, s253_59, s253_60, s253_63, s253_64, s253_65, s253_68, s253_71, s253_72, true_or, or_true, or_false, false_or, or_self, Int32.reduceLT, Int32.reduceLE, Nat.add_zero, Nat.zero_add, Nat.not_lt_zero, not_false_eq_true, not_true_eq_false, and_assoc, kl_q, kl_i, kl_r, kl_n, kl_0, kl_l, cs_0, cs_i, cs_r, cs_n, cs_l, aRf_s, aRf_n, gi_wl, gi_wr, gl_wi, gl_wl, gl_wr, gr_wi, gr_wl, gr_wr, sh_wi, sh_wl, sh_wr, gl_cp, gr_cp, sh_cp, gl_rw, gr_rw, sh_rw, gi_rl, gr_rl, sh_rl, Option.toList_some, Option.toList_none, List.nil_append, List.cons_append, List.append_nil, Option.some.injEq, Prod.mk.injEq, and_true, true_and, and_self, if_true, if_false, reduceCtorEq, Nat.reduceLeDiff, Nat.reduceLT, Nat.reduceAdd, Nat.reduceEqDiff, false_and, and_false, exists_const, exists_eq_left, exists_eq_left', exists_and_left, and_assoc, nltL, nltR, nleL, nleR, neqL, neqR, naL, naR, nmL, nmR, nI_ltI, nI_leI, nI_eq, nI_add, nI_mul, nI_clamp, n0l, n0r, nm1, nm1', nm1l, nm1r, nm1g, nsL, nI_m1, Nat.add_sub_cancel, vpn, vpL, nclL, le32, leLL, leLN, leNL, leNN, inA, nb0, nb1, gi_wi_n, gi_wi_e, gi_rw_n, gi_rw_e, aWi_rw, ifl, ifl_, ifle, ifle_, ifq, ifq_, ifnq, ifnq_, ifnl, ifnl_, ifnle, ifnle_, z399 ok, z422 ok, z423 ok, z424 ok, z426 ok, r399_41 ok, r399_42 ok, r399_43 ok, r399_46 ok, r3, e1, bI_0, Bool.true_eq_false, a0, a1, c1, c2, c3, c4]
      rw [pk] at fin
      by_cases h1 : T w p = mnG g k
      · rw [if_neg (fun q => q h1)]
        by_cases h2 : 1 = arG g k
        · rw [if_neg (fun q => q h2)]
          exact fin true (by rw [decide_eq_true h1]; exact (decide_eq_true h2).symm)
        · rw [if_pos h2]
          exact fin false (by rw [decide_eq_true h1]; exact (decide_eq_false h2).symm)
      · rw [if_pos h1]
        by_cases h2 : 0 = arG g k
        · rw [if_neg (fun q => q h2)]
          exact fin true (by rw [decide_eq_false h1]; exact (decide_eq_true h2).symm)
        · rw [if_pos h2]
          exact fin false (by rw [decide_eq_false h1]; exact (decide_eq_false h2).symm)
  · rintro lv h' ⟨b, rfl, rfl, hb⟩
    rw [s253_8]
    simp (disch := omega) only [s253_0, s253_1, s253_2, s253_5, s253_6, s253_7, s253_9, s253_10, s253_13, s253_16, s253_17, s253_20, s253_21, s253_24, s253_26, s253_27, s253_28, s253_29, s253_32, s253_33, s253_34, s253_35, s253_36, s253_37, s253_40, s253_41, s253_42, s253_45, s253_46, s253_49, s253_50, s253_51, s253_54, s253_55, s253_56, s253_59, s253_60, s253_63, s253_64, s253_65, s253_68, s253_71, s253_72, true_or, or_true, or_false, false_or, or_self, Int32.reduceLT, Int32.reduceLE, Nat.add_zero, Nat.zero_add, Nat.not_lt_zero, not_false_eq_true, not_true_eq_false, and_assoc, kl_q, kl_i, kl_r, kl_n, kl_0, kl_l, cs_0, cs_i, cs_r, cs_n, cs_l, aRf_s, aRf_n, gi_wl, gi_wr, gl_wi, gl_wl, gl_wr, gr_wi, gr_wl, gr_wr, sh_wi, sh_wl, sh_wr, gl_cp, gr_cp, sh_cp, gl_rw, gr_rw, sh_rw, gi_rl, gr_rl, sh_rl, Option.toList_some, Option.toList_none, List.nil_append, List.cons_append, List.append_nil, Option.some.injEq, Prod.mk.injEq, and_true, true_and, and_self, if_true, if_false, reduceCtorEq, Nat.reduceLeDiff, Nat.reduceLT, Nat.reduceAdd, Nat.reduceEqDiff, false_and, and_false, exists_const, exists_eq_left, exists_eq_left', exists_and_left, and_assoc, nltL, nltR, nleL, nleR, neqL, neqR, naL, naR, nmL, nmR, nI_ltI, nI_leI, nI_eq, nI_add, nI_mul, nI_clamp, n0l, n0r, nm1, nm1', nm1l, nm1r, nm1g, nsL, nI_m1, Nat.add_sub_cancel, vpn, vpL, nclL, le32, leLL, leLN, leNL, leNN, inA, nb0, nb1, gi_wi_n, gi_wi_e, gi_rw_n, gi_rw_e, aWi_rw, ifl, ifl_, ifle, ifle_, ifq, ifq_, ifnq, ifnq_, ifnl, ifnl_, ifnle, ifnle_, z399 ok, r3, Nat.le_refl, nbI]
    rw [hb]
    exact hq
end Q22
