-- deps: 33.lay
/-! ===== the class's course is set out ===== -/
theorem c_law {d : Nat} {g h : aM} {Q : Option Value → aM → Prop} {N : Nat} (il : ILaw g N) (sa : Same g h) (hq : Q (some (aRf (lawR g))) h) : AW d 127 0 [some (.ref 32)] [] h Q := by
  have ok := sa.1
  have e1 : gi h 32 17 = gi g 32 17 := sa.2 _ _ rfl
  have e2 : gi h 32 16 = nI N := by rw [sa.2 _ _ rfl, il.2.1]
  have hN := il.1
  rcases il.cases with ⟨l1, l2⟩ | ⟨i, hi, hin, l1, l2, l3, l4, l5⟩
  · rw [l2] at e1
    rw [lawR, if_pos l1] at hq
    simp (disch := omega) only [s127_0, s127_1, s127_4, s127_7, s127_8, s127_11, s127_12, s127_15, s127_18, s127_19, s127_22, s127_23, s127_26, s127_27, s127_30, s127_31, s127_31n, s127_31q, true_or, or_true, or_false, false_or, or_self, Int32.reduceLT, Int32.reduceLE, Nat.add_zero, Nat.zero_add, Nat.not_lt_zero, not_false_eq_true, not_true_eq_false, and_assoc, kl_q, kl_i, kl_r, kl_n, kl_0, kl_l, cs_0, cs_i, cs_r, cs_n, cs_l, aRf_s, aRf_n, gi_wl, gi_wr, gl_wi, gl_wl, gl_wr, gr_wi, gr_wl, gr_wr, sh_wi, sh_wl, sh_wr, gl_cp, gr_cp, sh_cp, gl_rw, gr_rw, sh_rw, gi_rl, gr_rl, sh_rl, Option.toList_some, Option.toList_none, List.nil_append, List.cons_append, List.append_nil, Option.some.injEq, Prod.mk.injEq, and_true, true_and, and_self, if_true, if_false, reduceCtorEq, Nat.reduceLeDiff, Nat.reduceLT, Nat.reduceAdd, Nat.reduceEqDiff, false_and, and_false, exists_const, exists_eq_left, exists_eq_left', exists_and_left, and_assoc, nltL, nltR, nleL, nleR, neqL, neqR, naL, naR, nmL, nmR, nI_ltI, nI_leI, nI_eq, nI_add, nI_mul, nI_clamp, n0l, n0r, nm1, nm1', nm1l, nm1r, nm1g, nsL, nI_m1, Nat.add_sub_cancel, vpn, vpL, nclL, le32, leLL, leLN, leNL, leNN, inA, nb0, nb1, gi_wi_n, gi_wi_e, gi_rw_n, gi_rw_e, aWi_rw, z32 ok, e1]
    exact hq
  · rw [l2] at e1
    rw [lawR, if_neg l4, l5] at hq
    have e3 : ¬ N ≤ i := by omega
    simp (disch := omega) only [s127_0, s127_1, s127_4, s127_7, s127_8, s127_11, s127_12, s127_15, s127_18, s127_19, s127_22, s127_23, s127_26, s127_27, s127_30, s127_31, s127_31n, s127_31q, true_or, or_true, or_false, false_or, or_self, Int32.reduceLT, Int32.reduceLE, Nat.add_zero, Nat.zero_add, Nat.not_lt_zero, not_false_eq_true, not_true_eq_false, and_assoc, kl_q, kl_i, kl_r, kl_n, kl_0, kl_l, cs_0, cs_i, cs_r, cs_n, cs_l, aRf_s, aRf_n, gi_wl, gi_wr, gl_wi, gl_wl, gl_wr, gr_wi, gr_wl, gr_wr, sh_wi, sh_wl, sh_wr, gl_cp, gr_cp, sh_cp, gl_rw, gr_rw, sh_rw, gi_rl, gr_rl, sh_rl, Option.toList_some, Option.toList_none, List.nil_append, List.cons_append, List.append_nil, Option.some.injEq, Prod.mk.injEq, and_true, true_and, and_self, if_true, if_false, reduceCtorEq, Nat.reduceLeDiff, Nat.reduceLT, Nat.reduceAdd, Nat.reduceEqDiff, false_and, and_false, exists_const, exists_eq_left, exists_eq_left', exists_and_left, and_assoc, nltL, nltR, nleL, nleR, neqL, neqR, naL, naR, nmL, nmR, nI_ltI, nI_leI, nI_eq, nI_add, nI_mul, nI_clamp, n0l, n0r, nm1, nm1', nm1l, nm1r, nm1g, nsL, nI_m1, Nat.add_sub_cancel, vpn, vpL, nclL, le32, leLL, leLN, leNL, leNN, inA, nb0, nb1, gi_wi_n, gi_wi_e, gi_rw_n, gi_rw_e, aWi_rw, z32 ok, z341 ok, r32_10 ok, e1, e2, e3, g341 ok hi, hi]
    exact hq
theorem i01 : (0 : Int32) &&& 1 = 0 := by decide
theorem i11 : (1 : Int32) &&& 1 = 1 := by decide
theorem imin30 {L : Nat} (h : L ≤ 30) : imin 30 (nI L) = nI L := by
  unfold imin
  split
  · rfl
  · rename_i q
    have : ¬ L < 30 := fun e => q ((nI_ltI (b := 30) (by omega) (by decide)).mpr e)
    have : L = 30 := by omega
    subst this
    rfl
theorem wetB_f {pl dp : Nat → Int32} {s : Nat} : ∀ {f : Nat}, (∀ i, i < f → ¬ pl i = nI s) → wetB pl dp f s = false
  | 0, _ => rfl
  | f + 1, h => by
    rw [wetB, wetB_f (fun i hi => h i (by omega))]
    simp [h f (by omega)]
theorem c_setOut79 {d : Nat} {g h : aM} {Q : Option Value → aM → Prop} {M F L W : Nat} {st vo dp : Nat → Int32} {P : Nat} {mud : Int32} (it : ITold g M F L W) (sa : Same g h) (hsv : ∀ k, k < M → gi g 80 k = st k ∧ gi g 81 k = vo k) (hdp : ∀ f, f < F → gi g 84 f = dp f) (hP : gi g 79 5 = nI P) (hmu : gi g 79 6 = mud)
    (hq : ∀ h', CoP g h' M F L st vo dp P mud → Q none h') : AW (d + 2) 6 0 [some (.ref 342), some (.ref 58), some (.ref 79), some (aRf (lawR g)), none, none] [] h Q := by
  have ok := sa.1
  obtain ⟨hM, hF, hL, hW, t5, t6, t7, t8, t9, t10, t11, t12, t13, t14, t15, t16⟩ := it
  have a1 : gi h 58 3 = nI M := by rw [sa.2 _ _ rfl, t6]
  have a2 : gi h 59 0 = nI L := by rw [sa.2 _ _ rfl, t10]
  have a3 : gi h 79 5 = nI P := by rw [sa.2 _ _ rfl, hP]
  have a4 : gi h 79 6 = mud := by rw [sa.2 _ _ rfl, hmu]
  generalize hlr : lawR g = lr at *
  simp (disch := omega) only [s6_0, s6_0n, s6_0q, s6_1, s6_1n, s6_1q, s6_2, s6_5, s6_8, s6_8n, s6_8q, s6_9, s6_11, s6_11n, s6_11q, s6_12, s6_15, s6_16, s6_17, s6_20, s6_23, s6_23n, s6_23q, s6_24, s6_24n, s6_24q, s6_25, s6_28, s6_31, s6_31n, s6_31q, s6_32, s6_32n, s6_32q, s6_33, s6_36, s6_39, s6_39n, s6_39q, s6_40, s6_40n, s6_40q, s6_41, s6_44, s6_44n, s6_44q, s6_45, s6_48, s6_48n, s6_48q, s6_49, s6_52, s6_55, s6_55n, s6_55q, s6_56, s6_59, s6_59n, s6_59q, s6_60, s6_63, s6_66, s6_67, s6_71, s6_71n, s6_71q, s6_72, s6_75, s6_78, s6_78n, s6_78q, s6_79, s6_82, s6_84, s6_84n, s6_84q, s6_85, s6_88, s6_90, s6_91, s6_92, s6_93, s6_94, s6_97, s6_100, s6_101, s6_105, s6_107, s6_110, s6_110n, s6_110q, s6_111, s6_114, s6_116, s6_117, s6_118, s6_121, s6_124, s6_125, s6_129, s6_129n, s6_129q, s6_130, s6_133, s6_136, s6_136n, s6_136q, s6_137, s6_140, s6_142, s6_143, s6_144, s6_145, s6_147, s6_149, s6_152, s6_154, s6_156, s6_159, s6_159n, s6_159q, s6_160, s6_163, s6_165, s6_165n, s6_165q, s6_166, s6_169, s6_171, s6_172, s6_175, s6_176, s6_179, s6_180, s6_181, s6_184, s6_187, true_or, or_true, or_false, false_or, or_self, Int32.reduceLT, Int32.reduceLE, Nat.add_zero, Nat.zero_add, Nat.not_lt_zero, not_false_eq_true, not_true_eq_false, and_assoc, kl_q, kl_i, kl_r, kl_n, kl_0, kl_l, cs_0, cs_i, cs_r, cs_n, cs_l, aRf_s, aRf_n, gi_wl, gi_wr, gl_wi, gl_wl, gl_wr, gr_wi, gr_wl, gr_wr, sh_wi, sh_wl, sh_wr, gl_cp, gr_cp, sh_cp, gl_rw, gr_rw, sh_rw, gi_rl, gr_rl, sh_rl, Option.toList_some, Option.toList_none, List.nil_append, List.cons_append, List.append_nil, Option.some.injEq, Prod.mk.injEq, and_true, true_and, and_self, if_true, if_false, reduceCtorEq, Nat.reduceLeDiff, Nat.reduceLT, Nat.reduceAdd, Nat.reduceEqDiff, false_and, and_false, exists_const, exists_eq_left, exists_eq_left', exists_and_left, and_assoc, nltL, nltR, nleL, nleR, neqL, neqR, naL, naR, nmL, nmR, nI_ltI, nI_leI, nI_eq, nI_add, nI_mul, nI_clamp, n0l, n0r, nm1, nm1', nm1l, nm1r, nm1g, nsL, nI_m1, Nat.add_sub_cancel, vpn, vpL, nclL, le32, leLL, leLN, leNL, leNN, inA, nb0, nb1, gi_wi_n, gi_wi_e, gi_rw_n, gi_rw_e, aWi_rw, z342 ok, z58 ok, z59 ok, z79 ok, r58_0 ok, r342_5 ok, r342_6 ok, r79_0 ok, r79_1 ok, a1, a2, a3, a4, sp_min, imin30]
  rw [sp_row (n := 6) (by simp only [true_or, or_true, or_false, false_or, or_self, Int32.reduceLT, Int32.reduceLE, Nat.add_zero, Nat.zero_add, Nat.not_lt_zero, not_false_eq_true, not_true_eq_false, and_assoc, kl_q, kl_i, kl_r, kl_n, kl_0, kl_l, cs_0, cs_i, cs_r, cs_n, cs_l, aRf_s, aRf_n, gi_wl, gi_wr, gl_wi, gl_wl, gl_wr, gr_wi, gr_wl, gr_wr, sh_wi, sh_wl, sh_wr, gl_cp, gr_cp, sh_cp, gl_rw, gr_rw, sh_rw, gi_rl, gr_rl, sh_rl, Option.toList_some, Option.toList_none, List.nil_append, List.cons_append, List.append_nil, Option.some.injEq, Prod.mk.injEq, and_true, true_and, and_self, if_true, if_false, reduceCtorEq, Nat.reduceLeDiff, Nat.reduceLT, Nat.reduceAdd, Nat.reduceEqDiff, false_and, and_false, exists_const, exists_eq_left, exists_eq_left', exists_and_left, and_assoc]; exact z80 ok) (by simp only [true_or, or_true, or_false, false_or, or_self, Int32.reduceLT, Int32.reduceLE, Nat.add_zero, Nat.zero_add, Nat.not_lt_zero, not_false_eq_true, not_true_eq_false, and_assoc, kl_q, kl_i, kl_r, kl_n, kl_0, kl_l, cs_0, cs_i, cs_r, cs_n, cs_l, aRf_s, aRf_n, gi_wl, gi_wr, gl_wi, gl_wl, gl_wr, gr_wi, gr_wl, gr_wr, sh_wi, sh_wl, sh_wr, gl_cp, gr_cp, sh_cp, gl_rw, gr_rw, sh_rw, gi_rl, gr_rl, sh_rl, Option.toList_some, Option.toList_none, List.nil_append, List.cons_append, List.append_nil, Option.some.injEq, Prod.mk.injEq, and_true, true_and, and_self, if_true, if_false, reduceCtorEq, Nat.reduceLeDiff, Nat.reduceLT, Nat.reduceAdd, Nat.reduceEqDiff, false_and, and_false, exists_const, exists_eq_left, exists_eq_left', exists_and_left, and_assoc]; exact z346 ok) (by decide) (by decide)]
  simp (disch := omega) only [s6_0, s6_0n, s6_0q, s6_1, s6_1n, s6_1q, s6_2, s6_5, s6_8, s6_8n, s6_8q, s6_9, s6_11, s6_11n, s6_11q, s6_12, s6_15, s6_16, s6_17, s6_20, s6_23, s6_23n, s6_23q, s6_24, s6_24n, s6_24q, s6_25, s6_28, s6_31, s6_31n, s6_31q, s6_32, s6_32n, s6_32q, s6_33, s6_36, s6_39, s6_39n, s6_39q, s6_40, s6_40n, s6_40q, s6_41, s6_44, s6_44n, s6_44q, s6_45, s6_48, s6_48n, s6_48q, s6_49, s6_52, s6_55, s6_55n, s6_55q, s6_56, s6_59, s6_59n, s6_59q, s6_60, s6_63, s6_66, s6_67, s6_71, s6_71n, s6_71q, s6_72, s6_75, s6_78, s6_78n, s6_78q, s6_79, s6_82, s6_84, s6_84n, s6_84q, s6_85, s6_88, s6_90, s6_91, s6_92, s6_93, s6_94, s6_97, s6_100, s6_101, s6_105, s6_107, s6_110, s6_110n, s6_110q, s6_111, s6_114, s6_116, s6_117, s6_118, s6_121, s6_124, s6_125, s6_129, s6_129n, s6_129q, s6_130, s6_133, s6_136, s6_136n, s6_136q, s6_137, s6_140, s6_142, s6_143, s6_144, s6_145, s6_147, s6_149, s6_152, s6_154, s6_156, s6_159, s6_159n, s6_159q, s6_160, s6_163, s6_165, s6_165n, s6_165q, s6_166, s6_169, s6_171, s6_172, s6_175, s6_176, s6_179, s6_180, s6_181, s6_184, s6_187, true_or, or_true, or_false, false_or, or_self, Int32.reduceLT, Int32.reduceLE, Nat.add_zero, Nat.zero_add, Nat.not_lt_zero, not_false_eq_true, not_true_eq_false, and_assoc, kl_q, kl_i, kl_r, kl_n, kl_0, kl_l, cs_0, cs_i, cs_r, cs_n, cs_l, aRf_s, aRf_n, gi_wl, gi_wr, gl_wi, gl_wl, gl_wr, gr_wi, gr_wl, gr_wr, sh_wi, sh_wl, sh_wr, gl_cp, gr_cp, sh_cp, gl_rw, gr_rw, sh_rw, gi_rl, gr_rl, sh_rl, Option.toList_some, Option.toList_none, List.nil_append, List.cons_append, List.append_nil, Option.some.injEq, Prod.mk.injEq, and_true, true_and, and_self, if_true, if_false, reduceCtorEq, Nat.reduceLeDiff, Nat.reduceLT, Nat.reduceAdd, Nat.reduceEqDiff, false_and, and_false, exists_const, exists_eq_left, exists_eq_left', exists_and_left, and_assoc, nltL, nltR, nleL, nleR, neqL, neqR, naL, naR, nmL, nmR, nI_ltI, nI_leI, nI_eq, nI_add, nI_mul, nI_clamp, n0l, n0r, nm1, nm1', nm1l, nm1r, nm1g, nsL, nI_m1, Nat.add_sub_cancel, vpn, vpL, nclL, le32, leLL, leLN, leNL, leNN, inA, nb0, nb1, gi_wi_n, gi_wi_e, gi_rw_n, gi_rw_e, aWi_rw, z342 ok, z58 ok, z59 ok, z79 ok, r58_0 ok, r342_5 ok, r342_6 ok, r79_0 ok, r79_1 ok, a1, a2, a3, a4]
  rw [sp_row (n := 6) (by simp only [true_or, or_true, or_false, false_or, or_self, Int32.reduceLT, Int32.reduceLE, Nat.add_zero, Nat.zero_add, Nat.not_lt_zero, not_false_eq_true, not_true_eq_false, and_assoc, kl_q, kl_i, kl_r, kl_n, kl_0, kl_l, cs_0, cs_i, cs_r, cs_n, cs_l, aRf_s, aRf_n, gi_wl, gi_wr, gl_wi, gl_wl, gl_wr, gr_wi, gr_wl, gr_wr, sh_wi, sh_wl, sh_wr, gl_cp, gr_cp, sh_cp, gl_rw, gr_rw, sh_rw, gi_rl, gr_rl, sh_rl, Option.toList_some, Option.toList_none, List.nil_append, List.cons_append, List.append_nil, Option.some.injEq, Prod.mk.injEq, and_true, true_and, and_self, if_true, if_false, reduceCtorEq, Nat.reduceLeDiff, Nat.reduceLT, Nat.reduceAdd, Nat.reduceEqDiff, false_and, and_false, exists_const, exists_eq_left, exists_eq_left', exists_and_left, and_assoc]; exact z81 ok) (by simp only [true_or, or_true, or_false, false_or, or_self, Int32.reduceLT, Int32.reduceLE, Nat.add_zero, Nat.zero_add, Nat.not_lt_zero, not_false_eq_true, not_true_eq_false, and_assoc, kl_q, kl_i, kl_r, kl_n, kl_0, kl_l, cs_0, cs_i, cs_r, cs_n, cs_l, aRf_s, aRf_n, gi_wl, gi_wr, gl_wi, gl_wl, gl_wr, gr_wi, gr_wl, gr_wr, sh_wi, sh_wl, sh_wr, gl_cp, gr_cp, sh_cp, gl_rw, gr_rw, sh_rw, gi_rl, gr_rl, sh_rl, Option.toList_some, Option.toList_none, List.nil_append, List.cons_append, List.append_nil, Option.some.injEq, Prod.mk.injEq, and_true, true_and, and_self, if_true, if_false, reduceCtorEq, Nat.reduceLeDiff, Nat.reduceLT, Nat.reduceAdd, Nat.reduceEqDiff, false_and, and_false, exists_const, exists_eq_left, exists_eq_left', exists_and_left, and_assoc]; exact z347 ok) (by decide) (by decide)]
  simp (disch := omega) only [s6_0, s6_0n, s6_0q, s6_1, s6_1n, s6_1q, s6_2, s6_5, s6_8, s6_8n, s6_8q, s6_9, s6_11, s6_11n, s6_11q, s6_12, s6_15, s6_16, s6_17, s6_20, s6_23, s6_23n, s6_23q, s6_24, s6_24n, s6_24q, s6_25, s6_28, s6_31, s6_31n, s6_31q, s6_32, s6_32n, s6_32q, s6_33, s6_36, s6_39, s6_39n, s6_39q, s6_40, s6_40n, s6_40q, s6_41, s6_44, s6_44n, s6_44q, s6_45, s6_48, s6_48n, s6_48q, s6_49, s6_52, s6_55, s6_55n, s6_55q, s6_56, s6_59, s6_59n, s6_59q, s6_60, s6_63, s6_66, s6_67, s6_71, s6_71n, s6_71q, s6_72, s6_75, s6_78, s6_78n, s6_78q, s6_79, s6_82, s6_84, s6_84n, s6_84q, s6_85, s6_88, s6_90, s6_91, s6_92, s6_93, s6_94, s6_97, s6_100, s6_101, s6_105, s6_107, s6_110, s6_110n, s6_110q, s6_111, s6_114, s6_116, s6_117, s6_118, s6_121, s6_124, s6_125, s6_129, s6_129n, s6_129q, s6_130, s6_133, s6_136, s6_136n, s6_136q, s6_137, s6_140, s6_142, s6_143, s6_144, s6_145, s6_147, s6_149, s6_152, s6_154, s6_156, s6_159, s6_159n, s6_159q, s6_160, s6_163, s6_165, s6_165n, s6_165q, s6_166, s6_169, s6_171, s6_172, s6_175, s6_176, s6_179, s6_180, s6_181, s6_184, s6_187, true_or, or_true, or_false, false_or, or_self, Int32.reduceLT, Int32.reduceLE, Nat.add_zero, Nat.zero_add, Nat.not_lt_zero, not_false_eq_true, not_true_eq_false, and_assoc, kl_q, kl_i, kl_r, kl_n, kl_0, kl_l, cs_0, cs_i, cs_r, cs_n, cs_l, aRf_s, aRf_n, gi_wl, gi_wr, gl_wi, gl_wl, gl_wr, gr_wi, gr_wl, gr_wr, sh_wi, sh_wl, sh_wr, gl_cp, gr_cp, sh_cp, gl_rw, gr_rw, sh_rw, gi_rl, gr_rl, sh_rl, Option.toList_some, Option.toList_none, List.nil_append, List.cons_append, List.append_nil, Option.some.injEq, Prod.mk.injEq, and_true, true_and, and_self, if_true, if_false, reduceCtorEq, Nat.reduceLeDiff, Nat.reduceLT, Nat.reduceAdd, Nat.reduceEqDiff, false_and, and_false, exists_const, exists_eq_left, exists_eq_left', exists_and_left, and_assoc, nltL, nltR, nleL, nleR, neqL, neqR, naL, naR, nmL, nmR, nI_ltI, nI_leI, nI_eq, nI_add, nI_mul, nI_clamp, n0l, n0r, nm1, nm1', nm1l, nm1r, nm1g, nsL, nI_m1, Nat.add_sub_cancel, vpn, vpL, nclL, le32, leLL, leLN, leNL, leNN, inA, nb0, nb1, gi_wi_n, gi_wi_e, gi_rw_n, gi_rw_e, aWi_rw, z342 ok, z58 ok, z59 ok, z79 ok, aCp_rw]
  generalize h11 : aRw (aRw (aWr (aWi (aWi (aWi (aWi h 342 11 (nI M)) 342 12 (nI L)) 342 13 (nI P)) 342 14 mud) 342 15 lr) 346 _) 347 _ = h1
  have s1 : Same g h1 := by
    rw [← h11]
    exact ((((((sa.wi rfl).wi rfl).wi rfl).wi rfl).wr).rw (fun k => rfl)).rw (fun k => rfl)
  have b1 : gi h1 342 11 = nI M ∧ gi h1 342 12 = nI L ∧ gi h1 342 13 = nI P ∧ gi h1 342 14 = mud ∧ gr h1 342 15 = lr := by
    rw [← h11]
    simp [gi_rw, gr_rw, gr_wr, gi_wr, gi_wi]
  have b2 : ∀ k, k < M → gi h1 346 k = st k ∧ gi h1 347 k = vo k := by
    intro k hk
    rw [← h11, ← (hsv k hk).1, ← (hsv k hk).2, ← sa.2 80 k rfl, ← sa.2 81 k rfl]
    have : k < 6 := by omega
    simp [gi_rw, gi_wr, gi_wi, this]
  clear h11
  have ok := s1.1
  refine aLoop M (fun k lv h' => lv = [some (.ref 342), some (.ref 58), some (.ref 79), some (aRf lr), some (.int (nI k)), none] ∧ h' = aRw h1 348 (fun j => if j < k then rkG g j else gi h1 348 j)) ?_ ?_ 0 _ _ (Nat.zero_le _) ⟨rfl, ?_⟩
  · rintro k lv h' hk ⟨rfl, rfl⟩ hk2
    have k6 : k < 6 := by omega
    have e1 : ¬ M ≤ k := by omega
    have e2 : gi h1 (61 + k) 3 = rkG g k := by
      rw [s1.2 _ _ (by have : k = 0 ∨ k = 1 ∨ k = 2 ∨ k = 3 ∨ k = 4 ∨ k = 5 := by omega
                       rcases this with rfl | rfl | rfl | rfl | rfl | rfl <;> rfl), (t14 k hk).1]
      rfl
    rw [s6_69]
    simp (disch := omega) only [s6_0, s6_0n, s6_0q, s6_1, s6_1n, s6_1q, s6_2, s6_5, s6_8, s6_8n, s6_8q, s6_9, s6_11, s6_11n, s6_11q, s6_12, s6_15, s6_16, s6_17, s6_20, s6_23, s6_23n, s6_23q, s6_24, s6_24n, s6_24q, s6_25, s6_28, s6_31, s6_31n, s6_31q, s6_32, s6_32n, s6_32q, s6_33, s6_36, s6_39, s6_39n, s6_39q, s6_40, s6_40n, s6_40q, s6_41, s6_44, s6_44n, s6_44q, s6_45, s6_48, s6_48n, s6_48q, s6_49, s6_52, s6_55, s6_55n, s6_55q, s6_56, s6_59, s6_59n, s6_59q, s6_60, s6_63, s6_66, s6_67, s6_71, s6_71n, s6_71q, s6_72, s6_75, s6_78, s6_78n, s6_78q, s6_79, s6_82, s6_84, s6_84n, s6_84q, s6_85, s6_88, s6_90, s6_91, s6_92, s6_93, s6_94, s6_97, s6_100, s6_101, s6_105, s6_107, s6_110, s6_110n, s6_110q, s6_111, s6_114, s6_116, s6_117, s6_118, s6_121, s6_124, s6_125, s6_129, s6_129n, s6_129q, s6_130, s6_133, s6_136, s6_136n, s6_136q, s6_137, s6_140, s6_142, s6_143, s6_144, s6_145, s6_147, s6_149, s6_152, s6_154, s6_156, s6_159, s6_159n, s6_159q, s6_160, s6_163, s6_165, s6_165n, s6_165q, s6_166, s6_169, s6_171, s6_172, s6_175, s6_176, s6_179, s6_180, s6_181, s6_184, s6_187, true_or, or_true, or_false, false_or, or_self, Int32.reduceLT, Int32.reduceLE, Nat.add_zero, Nat.zero_add, Nat.not_lt_zero, not_false_eq_true, not_true_eq_false, and_assoc, kl_q, kl_i, kl_r, kl_n, kl_0, kl_l, cs_0, cs_i, cs_r, cs_n, cs_l, aRf_s, aRf_n, gi_wl, gi_wr, gl_wi, gl_wl, gl_wr, gr_wi, gr_wl, gr_wr, sh_wi, sh_wl, sh_wr, gl_cp, gr_cp, sh_cp, gl_rw, gr_rw, sh_rw, gi_rl, gr_rl, sh_rl, Option.toList_some, Option.toList_none, List.nil_append, List.cons_append, List.append_nil, Option.some.injEq, Prod.mk.injEq, and_true, true_and, and_self, if_true, if_false, reduceCtorEq, Nat.reduceLeDiff, Nat.reduceLT, Nat.reduceAdd, Nat.reduceEqDiff, false_and, and_false, exists_const, exists_eq_left, exists_eq_left', exists_and_left, and_assoc, nltL, nltR, nleL, nleR, neqL, neqR, naL, naR, nmL, nmR, nI_ltI, nI_leI, nI_eq, nI_add, nI_mul, nI_clamp, n0l, n0r, nm1, nm1', nm1l, nm1r, nm1g, nsL, nI_m1, Nat.add_sub_cancel, vpn, vpL, nclL, le32, leLL, leLN, leNL, leNN, inA, nb0, nb1, gi_wi_n, gi_wi_e, gi_rw_n, gi_rw_e, aWi_rw, z342 ok, z58 ok, z60 ok, z348 ok, r58_1 ok, r342_7 ok, b1.1, e1, e2, k6, g60 ok k6, q61 ok k6]
    refine hk2 _ _ ⟨rfl, ?_⟩
    congr 1
    funext j
    by_cases hj : j = k
    · subst hj
      rw [if_pos rfl, if_pos (by omega)]
    · rw [if_neg hj]
      by_cases hj2 : j < k
      · rw [if_pos hj2, if_pos (by omega)]
      · rw [if_neg hj2, if_neg (by omega)]
  · rintro lv h' ⟨rfl, rfl⟩
    rw [s6_69]
    simp (disch := omega) only [s6_0, s6_0n, s6_0q, s6_1, s6_1n, s6_1q, s6_2, s6_5, s6_8, s6_8n, s6_8q, s6_9, s6_11, s6_11n, s6_11q, s6_12, s6_15, s6_16, s6_17, s6_20, s6_23, s6_23n, s6_23q, s6_24, s6_24n, s6_24q, s6_25, s6_28, s6_31, s6_31n, s6_31q, s6_32, s6_32n, s6_32q, s6_33, s6_36, s6_39, s6_39n, s6_39q, s6_40, s6_40n, s6_40q, s6_41, s6_44, s6_44n, s6_44q, s6_45, s6_48, s6_48n, s6_48q, s6_49, s6_52, s6_55, s6_55n, s6_55q, s6_56, s6_59, s6_59n, s6_59q, s6_60, s6_63, s6_66, s6_67, s6_71, s6_71n, s6_71q, s6_72, s6_75, s6_78, s6_78n, s6_78q, s6_79, s6_82, s6_84, s6_84n, s6_84q, s6_85, s6_88, s6_90, s6_91, s6_92, s6_93, s6_94, s6_97, s6_100, s6_101, s6_105, s6_107, s6_110, s6_110n, s6_110q, s6_111, s6_114, s6_116, s6_117, s6_118, s6_121, s6_124, s6_125, s6_129, s6_129n, s6_129q, s6_130, s6_133, s6_136, s6_136n, s6_136q, s6_137, s6_140, s6_142, s6_143, s6_144, s6_145, s6_147, s6_149, s6_152, s6_154, s6_156, s6_159, s6_159n, s6_159q, s6_160, s6_163, s6_165, s6_165n, s6_165q, s6_166, s6_169, s6_171, s6_172, s6_175, s6_176, s6_179, s6_180, s6_181, s6_184, s6_187, true_or, or_true, or_false, false_or, or_self, Int32.reduceLT, Int32.reduceLE, Nat.add_zero, Nat.zero_add, Nat.not_lt_zero, not_false_eq_true, not_true_eq_false, and_assoc, kl_q, kl_i, kl_r, kl_n, kl_0, kl_l, cs_0, cs_i, cs_r, cs_n, cs_l, aRf_s, aRf_n, gi_wl, gi_wr, gl_wi, gl_wl, gl_wr, gr_wi, gr_wl, gr_wr, sh_wi, sh_wl, sh_wr, gl_cp, gr_cp, sh_cp, gl_rw, gr_rw, sh_rw, gi_rl, gr_rl, sh_rl, Option.toList_some, Option.toList_none, List.nil_append, List.cons_append, List.append_nil, Option.some.injEq, Prod.mk.injEq, and_true, true_and, and_self, if_true, if_false, reduceCtorEq, Nat.reduceLeDiff, Nat.reduceLT, Nat.reduceAdd, Nat.reduceEqDiff, false_and, and_false, exists_const, exists_eq_left, exists_eq_left', exists_and_left, and_assoc, nltL, nltR, nleL, nleR, neqL, neqR, naL, naR, nmL, nmR, nI_ltI, nI_leI, nI_eq, nI_add, nI_mul, nI_clamp, n0l, n0r, nm1, nm1', nm1l, nm1r, nm1g, nsL, nI_m1, Nat.add_sub_cancel, vpn, vpL, nclL, le32, leLL, leLN, leNL, leNN, inA, nb0, nb1, gi_wi_n, gi_wi_e, gi_rw_n, gi_rw_e, aWi_rw, z342 ok, b1.1, Nat.le_refl]
    generalize h22 : aRw h1 348 _ = h2
    have s2 : Same g h2 := by
      rw [← h22]
      exact s1.rw (fun k => rfl)
    have b3 : gi h2 342 11 = nI M ∧ gi h2 342 12 = nI L ∧ gi h2 342 13 = nI P ∧ gi h2 342 14 = mud ∧ gr h2 342 15 = lr := by
      rw [← h22]
      simp only [gr_rw]
      rw [gi_rw_n (by decide), gi_rw_n (by decide), gi_rw_n (by decide), gi_rw_n (by decide)]
      exact b1
    have b4 : ∀ k, k < M → gi h2 346 k = st k ∧ gi h2 347 k = vo k ∧ gi h2 348 k = rkG g k := by
      intro k hk
      rw [← h22, gi_rw_n (by decide), gi_rw_n (by decide), gi_rw_e, if_pos hk]
      exact ⟨(b2 k hk).1, (b2 k hk).2, rfl⟩
    clear h22 b1 b2
    have ok := s2.1
    refine aLoop 31 (fun k lv h' => lv = [some (.ref 342), some (.ref 58), some (.ref 79), some (aRf lr), some (.int (nI k)), none] ∧ h' = aRw h2 349 (fillF (gi h2 349) k 0)) ?_ ?_ 0 _ _ (Nat.zero_le _) ⟨rfl, ?_⟩
    · rintro k lv h' hk ⟨rfl, rfl⟩ hk2
      have e1 : ¬ 30 < k := by omega
      rw [s6_103]
      simp (disch := omega) only [s6_0, s6_0n, s6_0q, s6_1, s6_1n, s6_1q, s6_2, s6_5, s6_8, s6_8n, s6_8q, s6_9, s6_11, s6_11n, s6_11q, s6_12, s6_15, s6_16, s6_17, s6_20, s6_23, s6_23n, s6_23q, s6_24, s6_24n, s6_24q, s6_25, s6_28, s6_31, s6_31n, s6_31q, s6_32, s6_32n, s6_32q, s6_33, s6_36, s6_39, s6_39n, s6_39q, s6_40, s6_40n, s6_40q, s6_41, s6_44, s6_44n, s6_44q, s6_45, s6_48, s6_48n, s6_48q, s6_49, s6_52, s6_55, s6_55n, s6_55q, s6_56, s6_59, s6_59n, s6_59q, s6_60, s6_63, s6_66, s6_67, s6_71, s6_71n, s6_71q, s6_72, s6_75, s6_78, s6_78n, s6_78q, s6_79, s6_82, s6_84, s6_84n, s6_84q, s6_85, s6_88, s6_90, s6_91, s6_92, s6_93, s6_94, s6_97, s6_100, s6_101, s6_105, s6_107, s6_110, s6_110n, s6_110q, s6_111, s6_114, s6_116, s6_117, s6_118, s6_121, s6_124, s6_125, s6_129, s6_129n, s6_129q, s6_130, s6_133, s6_136, s6_136n, s6_136q, s6_137, s6_140, s6_142, s6_143, s6_144, s6_145, s6_147, s6_149, s6_152, s6_154, s6_156, s6_159, s6_159n, s6_159q, s6_160, s6_163, s6_165, s6_165n, s6_165q, s6_166, s6_169, s6_171, s6_172, s6_175, s6_176, s6_179, s6_180, s6_181, s6_184, s6_187, true_or, or_true, or_false, false_or, or_self, Int32.reduceLT, Int32.reduceLE, Nat.add_zero, Nat.zero_add, Nat.not_lt_zero, not_false_eq_true, not_true_eq_false, and_assoc, kl_q, kl_i, kl_r, kl_n, kl_0, kl_l, cs_0, cs_i, cs_r, cs_n, cs_l, aRf_s, aRf_n, gi_wl, gi_wr, gl_wi, gl_wl, gl_wr, gr_wi, gr_wl, gr_wr, sh_wi, sh_wl, sh_wr, gl_cp, gr_cp, sh_cp, gl_rw, gr_rw, sh_rw, gi_rl, gr_rl, sh_rl, Option.toList_some, Option.toList_none, List.nil_append, List.cons_append, List.append_nil, Option.some.injEq, Prod.mk.injEq, and_true, true_and, and_self, if_true, if_false, reduceCtorEq, Nat.reduceLeDiff, Nat.reduceLT, Nat.reduceAdd, Nat.reduceEqDiff, false_and, and_false, exists_const, exists_eq_left, exists_eq_left', exists_and_left, and_assoc, nltL, nltR, nleL, nleR, neqL, neqR, naL, naR, nmL, nmR, nI_ltI, nI_leI, nI_eq, nI_add, nI_mul, nI_clamp, n0l, n0r, nm1, nm1', nm1l, nm1r, nm1g, nsL, nI_m1, Nat.add_sub_cancel, vpn, vpL, nclL, le32, leLL, leLN, leNL, leNN, inA, nb0, nb1, gi_wi_n, gi_wi_e, gi_rw_n, gi_rw_e, aWi_rw, z342 ok, z349 ok, r342_8 ok, e1, hk, i01]
      refine hk2 _ _ ⟨rfl, ?_⟩
      congr 1
      funext i
      simp only [fillF]
      by_cases h1 : i = k
      · rw [if_pos h1, if_pos (by omega)]
      · rw [if_neg h1]
        by_cases h2 : i < k
        · rw [if_pos h2, if_pos (by omega)]
        · rw [if_neg h2, if_neg (by omega)]
    · rintro lv h' ⟨rfl, rfl⟩
      have e1 : 30 < 31 := by decide
      rw [s6_103]
      simp (disch := omega) only [s6_0, s6_0n, s6_0q, s6_1, s6_1n, s6_1q, s6_2, s6_5, s6_8, s6_8n, s6_8q, s6_9, s6_11, s6_11n, s6_11q, s6_12, s6_15, s6_16, s6_17, s6_20, s6_23, s6_23n, s6_23q, s6_24, s6_24n, s6_24q, s6_25, s6_28, s6_31, s6_31n, s6_31q, s6_32, s6_32n, s6_32q, s6_33, s6_36, s6_39, s6_39n, s6_39q, s6_40, s6_40n, s6_40q, s6_41, s6_44, s6_44n, s6_44q, s6_45, s6_48, s6_48n, s6_48q, s6_49, s6_52, s6_55, s6_55n, s6_55q, s6_56, s6_59, s6_59n, s6_59q, s6_60, s6_63, s6_66, s6_67, s6_71, s6_71n, s6_71q, s6_72, s6_75, s6_78, s6_78n, s6_78q, s6_79, s6_82, s6_84, s6_84n, s6_84q, s6_85, s6_88, s6_90, s6_91, s6_92, s6_93, s6_94, s6_97, s6_100, s6_101, s6_105, s6_107, s6_110, s6_110n, s6_110q, s6_111, s6_114, s6_116, s6_117, s6_118, s6_121, s6_124, s6_125, s6_129, s6_129n, s6_129q, s6_130, s6_133, s6_136, s6_136n, s6_136q, s6_137, s6_140, s6_142, s6_143, s6_144, s6_145, s6_147, s6_149, s6_152, s6_154, s6_156, s6_159, s6_159n, s6_159q, s6_160, s6_163, s6_165, s6_165n, s6_165q, s6_166, s6_169, s6_171, s6_172, s6_175, s6_176, s6_179, s6_180, s6_181, s6_184, s6_187, true_or, or_true, or_false, false_or, or_self, Int32.reduceLT, Int32.reduceLE, Nat.add_zero, Nat.zero_add, Nat.not_lt_zero, not_false_eq_true, not_true_eq_false, and_assoc, kl_q, kl_i, kl_r, kl_n, kl_0, kl_l, cs_0, cs_i, cs_r, cs_n, cs_l, aRf_s, aRf_n, gi_wl, gi_wr, gl_wi, gl_wl, gl_wr, gr_wi, gr_wl, gr_wr, sh_wi, sh_wl, sh_wr, gl_cp, gr_cp, sh_cp, gl_rw, gr_rw, sh_rw, gi_rl, gr_rl, sh_rl, Option.toList_some, Option.toList_none, List.nil_append, List.cons_append, List.append_nil, Option.some.injEq, Prod.mk.injEq, and_true, true_and, and_self, if_true, if_false, reduceCtorEq, Nat.reduceLeDiff, Nat.reduceLT, Nat.reduceAdd, Nat.reduceEqDiff, false_and, and_false, exists_const, exists_eq_left, exists_eq_left', exists_and_left, and_assoc, nltL, nltR, nleL, nleR, neqL, neqR, naL, naR, nmL, nmR, nI_ltI, nI_leI, nI_eq, nI_add, nI_mul, nI_clamp, n0l, n0r, nm1, nm1', nm1l, nm1r, nm1g, nsL, nI_m1, Nat.add_sub_cancel, vpn, vpL, nclL, le32, leLL, leLN, leNL, leNN, inA, nb0, nb1, gi_wi_n, gi_wi_e, gi_rw_n, gi_rw_e, aWi_rw, z342 ok, e1]
      refine aLoop F (fun f lv h' => ∃ w, lv = [some (.ref 342), some (.ref 58), some (.ref 79), some (aRf lr), some (.int (nI f)), w] ∧ h' = aRw h2 349 (fun s => if s < 31 then bI (wetB (plG g) dp f s) else gi h2 349 s)) ?_ ?_ 0 _ _ (Nat.zero_le _) ⟨none, rfl, ?_⟩
      · rintro f lv h' hf ⟨w, rfl, rfl⟩ hk2
        have f5 : f < 5 := by omega
        have e1 : ¬ F ≤ f := by omega
        obtain ⟨e2, p, hp, e3⟩ := t15 f hf
        have e4 : gi h2 (68 + f) 0 = nI p := by
          rw [s2.2 _ _ (by have : f = 0 ∨ f = 1 ∨ f = 2 ∨ f = 3 ∨ f = 4 := by omega
                           rcases this with rfl | rfl | rfl | rfl | rfl <;> rfl), e2, e3]
        have e5 : gi h2 84 f = dp f := by rw [s2.2 _ _ rfl, hdp f hf]
        have e6 : gi h2 58 4 = nI F := by rw [s2.2 _ _ rfl, t8]
        have e7 : ¬ 30 < p := by omega
        have e8 : p < 31 := by omega
        have hpl : plG g f = nI p := e3
        have key : ∀ b : Int32, b = (if 0 < dp f then 1 else 0) → (fun j => if j = p then b else if j < 31 then bI (wetB (plG g) dp f j) else gi h2 349 j) = fun s => if s < 31 then bI (wetB (plG g) dp (f + 1) s) else gi h2 349 s := by
          intro b hb
          funext j
          by_cases hj : j = p
          · subst hj
            rw [if_pos rfl, if_pos e8, wetB, wetB_f, hpl, hb]
            · by_cases hd : 0 < dp f <;> simp [hd, bI]
            · intro i hi hc
              have := t16 i f (by omega) hf (by rw [e3]; exact hc)
              omega
          · rw [if_neg hj]
            by_cases hj2 : j < 31
            · rw [if_pos hj2, if_pos hj2, wetB, hpl]
              have : ¬ nI p = nI j := fun q => hj ((nI_eq (by omega) (by omega)).mp q).symm
              simp [this]
            · rw [if_neg hj2, if_neg hj2]
        rw [s6_127]
        simp (disch := omega) only [s6_0, s6_0n, s6_0q, s6_1, s6_1n, s6_1q, s6_2, s6_5, s6_8, s6_8n, s6_8q, s6_9, s6_11, s6_11n, s6_11q, s6_12, s6_15, s6_16, s6_17, s6_20, s6_23, s6_23n, s6_23q, s6_24, s6_24n, s6_24q, s6_25, s6_28, s6_31, s6_31n, s6_31q, s6_32, s6_32n, s6_32q, s6_33, s6_36, s6_39, s6_39n, s6_39q, s6_40, s6_40n, s6_40q, s6_41, s6_44, s6_44n, s6_44q, s6_45, s6_48, s6_48n, s6_48q, s6_49, s6_52, s6_55, s6_55n, s6_55q, s6_56, s6_59, s6_59n, s6_59q, s6_60, s6_63, s6_66, s6_67, s6_71, s6_71n, s6_71q, s6_72, s6_75, s6_78, s6_78n, s6_78q, s6_79, s6_82, s6_84, s6_84n, s6_84q, s6_85, s6_88, s6_90, s6_91, s6_92, s6_93, s6_94, s6_97, s6_100, s6_101, s6_105, s6_107, s6_110, s6_110n, s6_110q, s6_111, s6_114, s6_116, s6_117, s6_118, s6_121, s6_124, s6_125, s6_129, s6_129n, s6_129q, s6_130, s6_133, s6_136, s6_136n, s6_136q, s6_137, s6_140, s6_142, s6_143, s6_144, s6_145, s6_147, s6_149, s6_152, s6_154, s6_156, s6_159, s6_159n, s6_159q, s6_160, s6_163, s6_165, s6_165n, s6_165q, s6_166, s6_169, s6_171, s6_172, s6_175, s6_176, s6_179, s6_180, s6_181, s6_184, s6_187, true_or, or_true, or_false, false_or, or_self, Int32.reduceLT, Int32.reduceLE, Nat.add_zero, Nat.zero_add, Nat.not_lt_zero, not_false_eq_true, not_true_eq_false, and_assoc, kl_q, kl_i, kl_r, kl_n, kl_0, kl_l, cs_0, cs_i, cs_r, cs_n, cs_l, aRf_s, aRf_n, gi_wl, gi_wr, gl_wi, gl_wl, gl_wr, gr_wi, gr_wl, gr_wr, sh_wi, sh_wl, sh_wr, gl_cp, gr_cp, sh_cp, gl_rw, gr_rw, sh_rw, gi_rl, gr_rl, sh_rl, Option.toList_some, Option.toList_none, List.nil_append, List.cons_append, List.append_nil, Option.some.injEq, Prod.mk.injEq, and_true, true_and, and_self, if_true, if_false, reduceCtorEq, Nat.reduceLeDiff, Nat.reduceLT, Nat.reduceAdd, Nat.reduceEqDiff, false_and, and_false, exists_const, exists_eq_left, exists_eq_left', exists_and_left, and_assoc, nltL, nltR, nleL, nleR, neqL, neqR, naL, naR, nmL, nmR, nI_ltI, nI_leI, nI_eq, nI_add, nI_mul, nI_clamp, n0l, n0r, nm1, nm1', nm1l, nm1r, nm1g, nsL, nI_m1, Nat.add_sub_cancel, vpn, vpL, nclL, le32, leLL, leLN, leNL, leNN, inA, nb0, nb1, gi_wi_n, gi_wi_e, gi_rw_n, gi_rw_e, aWi_rw, z342 ok, z58 ok, z67 ok, z349 ok, z79 ok, z84 ok, r58_2 ok, r342_8 ok, r79_4 ok, e1, e4, e5, e6, e7, e8, f5, g67 ok f5, q68 ok f5, i01, i11]
        by_cases hd : 0 < dp f
        · rw [if_neg (Int32.not_le.mpr hd)]
          exact hk2 _ _ ⟨_, rfl, by rw [key 1 (by rw [if_pos hd])]⟩
        · rw [if_pos (Int32.not_lt.mp hd)]
          exact hk2 _ _ ⟨_, rfl, by rw [key 0 (by rw [if_neg hd])]⟩
      · rintro lv h' ⟨w, rfl, rfl⟩
        have e6 : gi h2 58 4 = nI F := by rw [s2.2 _ _ rfl, t8]
        rw [s6_127]
        simp (disch := omega) only [s6_0, s6_0n, s6_0q, s6_1, s6_1n, s6_1q, s6_2, s6_5, s6_8, s6_8n, s6_8q, s6_9, s6_11, s6_11n, s6_11q, s6_12, s6_15, s6_16, s6_17, s6_20, s6_23, s6_23n, s6_23q, s6_24, s6_24n, s6_24q, s6_25, s6_28, s6_31, s6_31n, s6_31q, s6_32, s6_32n, s6_32q, s6_33, s6_36, s6_39, s6_39n, s6_39q, s6_40, s6_40n, s6_40q, s6_41, s6_44, s6_44n, s6_44q, s6_45, s6_48, s6_48n, s6_48q, s6_49, s6_52, s6_55, s6_55n, s6_55q, s6_56, s6_59, s6_59n, s6_59q, s6_60, s6_63, s6_66, s6_67, s6_71, s6_71n, s6_71q, s6_72, s6_75, s6_78, s6_78n, s6_78q, s6_79, s6_82, s6_84, s6_84n, s6_84q, s6_85, s6_88, s6_90, s6_91, s6_92, s6_93, s6_94, s6_97, s6_100, s6_101, s6_105, s6_107, s6_110, s6_110n, s6_110q, s6_111, s6_114, s6_116, s6_117, s6_118, s6_121, s6_124, s6_125, s6_129, s6_129n, s6_129q, s6_130, s6_133, s6_136, s6_136n, s6_136q, s6_137, s6_140, s6_142, s6_143, s6_144, s6_145, s6_147, s6_149, s6_152, s6_154, s6_156, s6_159, s6_159n, s6_159q, s6_160, s6_163, s6_165, s6_165n, s6_165q, s6_166, s6_169, s6_171, s6_172, s6_175, s6_176, s6_179, s6_180, s6_181, s6_184, s6_187, true_or, or_true, or_false, false_or, or_self, Int32.reduceLT, Int32.reduceLE, Nat.add_zero, Nat.zero_add, Nat.not_lt_zero, not_false_eq_true, not_true_eq_false, and_assoc, kl_q, kl_i, kl_r, kl_n, kl_0, kl_l, cs_0, cs_i, cs_r, cs_n, cs_l, aRf_s, aRf_n, gi_wl, gi_wr, gl_wi, gl_wl, gl_wr, gr_wi, gr_wl, gr_wr, sh_wi, sh_wl, sh_wr, gl_cp, gr_cp, sh_cp, gl_rw, gr_rw, sh_rw, gi_rl, gr_rl, sh_rl, Option.toList_some, Option.toList_none, List.nil_append, List.cons_append, List.append_nil, Option.some.injEq, Prod.mk.injEq, and_true, true_and, and_self, if_true, if_false, reduceCtorEq, Nat.reduceLeDiff, Nat.reduceLT, Nat.reduceAdd, Nat.reduceEqDiff, false_and, and_false, exists_const, exists_eq_left, exists_eq_left', exists_and_left, and_assoc, nltL, nltR, nleL, nleR, neqL, neqR, naL, naR, nmL, nmR, nI_ltI, nI_leI, nI_eq, nI_add, nI_mul, nI_clamp, n0l, n0r, nm1, nm1', nm1l, nm1r, nm1g, nsL, nI_m1, Nat.add_sub_cancel, vpn, vpL, nclL, le32, leLL, leLN, leNL, leNN, inA, nb0, nb1, gi_wi_n, gi_wi_e, gi_rw_n, gi_rw_e, aWi_rw, z342 ok, z58 ok, e6, Nat.le_refl]
        refine hq _ ⟨s2.rw (fun k => rfl), ?_, ?_, ?_, ?_, ?_, ?_, ?_⟩
        · rw [gi_rw_n (by decide)]
          exact b3.1
        · rw [gi_rw_n (by decide)]
          exact b3.2.1
        · rw [gi_rw_n (by decide)]
          exact b3.2.2.1
        · rw [gi_rw_n (by decide)]
          exact b3.2.2.2.1
        · rw [gr_rw, hlr]
          exact b3.2.2.2.2
        · intro k hk
          rw [gi_rw_n (by decide), gi_rw_n (by decide), gi_rw_n (by decide)]
          exact b4 k hk
        · intro s hs
          rw [gi_rw_e, if_pos (by omega)]
          rfl
      · congr 1
    · have : fillF (gi h2 349) 0 0 = gi h2 349 := by
        funext j
        simp [fillF]
      rw [this, aRw_0]
  · have : (fun j => if j < 0 then rkG g j else gi h1 348 j) = gi h1 348 := by
      funext j
      simp
    rw [this, aRw_0]
theorem c_setOut73 {d : Nat} {g h : aM} {Q : Option Value → aM → Prop} {M F L W : Nat} {st vo dp : Nat → Int32} {P : Nat} {mud : Int32} (it : ITold g M F L W) (sa : Same g h) (hsv : ∀ k, k < M → gi g 74 k = st k ∧ gi g 75 k = vo k) (hdp : ∀ f, f < F → gi g 78 f = dp f) (hP : gi g 73 5 = nI P) (hmu : gi g 73 6 = mud)
    (hq : ∀ h', CoP g h' M F L st vo dp P mud → Q none h') : AW (d + 2) 6 0 [some (.ref 342), some (.ref 58), some (.ref 73), some (aRf (lawR g)), none, none] [] h Q := by
  have ok := sa.1
  obtain ⟨hM, hF, hL, hW, t5, t6, t7, t8, t9, t10, t11, t12, t13, t14, t15, t16⟩ := it
  have a1 : gi h 58 3 = nI M := by rw [sa.2 _ _ rfl, t6]
  have a2 : gi h 59 0 = nI L := by rw [sa.2 _ _ rfl, t10]
  have a3 : gi h 73 5 = nI P := by rw [sa.2 _ _ rfl, hP]
  have a4 : gi h 73 6 = mud := by rw [sa.2 _ _ rfl, hmu]
  generalize hlr : lawR g = lr at *
  simp (disch := omega) only [s6_0, s6_0n, s6_0q, s6_1, s6_1n, s6_1q, s6_2, s6_5, s6_8, s6_8n, s6_8q, s6_9, s6_11, s6_11n, s6_11q, s6_12, s6_15, s6_16, s6_17, s6_20, s6_23, s6_23n, s6_23q, s6_24, s6_24n, s6_24q, s6_25, s6_28, s6_31, s6_31n, s6_31q, s6_32, s6_32n, s6_32q, s6_33, s6_36, s6_39, s6_39n, s6_39q, s6_40, s6_40n, s6_40q, s6_41, s6_44, s6_44n, s6_44q, s6_45, s6_48, s6_48n, s6_48q, s6_49, s6_52, s6_55, s6_55n, s6_55q, s6_56, s6_59, s6_59n, s6_59q, s6_60, s6_63, s6_66, s6_67, s6_71, s6_71n, s6_71q, s6_72, s6_75, s6_78, s6_78n, s6_78q, s6_79, s6_82, s6_84, s6_84n, s6_84q, s6_85, s6_88, s6_90, s6_91, s6_92, s6_93, s6_94, s6_97, s6_100, s6_101, s6_105, s6_107, s6_110, s6_110n, s6_110q, s6_111, s6_114, s6_116, s6_117, s6_118, s6_121, s6_124, s6_125, s6_129, s6_129n, s6_129q, s6_130, s6_133, s6_136, s6_136n, s6_136q, s6_137, s6_140, s6_142, s6_143, s6_144, s6_145, s6_147, s6_149, s6_152, s6_154, s6_156, s6_159, s6_159n, s6_159q, s6_160, s6_163, s6_165, s6_165n, s6_165q, s6_166, s6_169, s6_171, s6_172, s6_175, s6_176, s6_179, s6_180, s6_181, s6_184, s6_187, true_or, or_true, or_false, false_or, or_self, Int32.reduceLT, Int32.reduceLE, Nat.add_zero, Nat.zero_add, Nat.not_lt_zero, not_false_eq_true, not_true_eq_false, and_assoc, kl_q, kl_i, kl_r, kl_n, kl_0, kl_l, cs_0, cs_i, cs_r, cs_n, cs_l, aRf_s, aRf_n, gi_wl, gi_wr, gl_wi, gl_wl, gl_wr, gr_wi, gr_wl, gr_wr, sh_wi, sh_wl, sh_wr, gl_cp, gr_cp, sh_cp, gl_rw, gr_rw, sh_rw, gi_rl, gr_rl, sh_rl, Option.toList_some, Option.toList_none, List.nil_append, List.cons_append, List.append_nil, Option.some.injEq, Prod.mk.injEq, and_true, true_and, and_self, if_true, if_false, reduceCtorEq, Nat.reduceLeDiff, Nat.reduceLT, Nat.reduceAdd, Nat.reduceEqDiff, false_and, and_false, exists_const, exists_eq_left, exists_eq_left', exists_and_left, and_assoc, nltL, nltR, nleL, nleR, neqL, neqR, naL, naR, nmL, nmR, nI_ltI, nI_leI, nI_eq, nI_add, nI_mul, nI_clamp, n0l, n0r, nm1, nm1', nm1l, nm1r, nm1g, nsL, nI_m1, Nat.add_sub_cancel, vpn, vpL, nclL, le32, leLL, leLN, leNL, leNN, inA, nb0, nb1, gi_wi_n, gi_wi_e, gi_rw_n, gi_rw_e, aWi_rw, z342 ok, z58 ok, z59 ok, z73 ok, r58_0 ok, r342_5 ok, r342_6 ok, r73_0 ok, r73_1 ok, a1, a2, a3, a4, sp_min, imin30]
  rw [sp_row (n := 6) (by simp only [true_or, or_true, or_false, false_or, or_self, Int32.reduceLT, Int32.reduceLE, Nat.add_zero, Nat.zero_add, Nat.not_lt_zero, not_false_eq_true, not_true_eq_false, and_assoc, kl_q, kl_i, kl_r, kl_n, kl_0, kl_l, cs_0, cs_i, cs_r, cs_n, cs_l, aRf_s, aRf_n, gi_wl, gi_wr, gl_wi, gl_wl, gl_wr, gr_wi, gr_wl, gr_wr, sh_wi, sh_wl, sh_wr, gl_cp, gr_cp, sh_cp, gl_rw, gr_rw, sh_rw, gi_rl, gr_rl, sh_rl, Option.toList_some, Option.toList_none, List.nil_append, List.cons_append, List.append_nil, Option.some.injEq, Prod.mk.injEq, and_true, true_and, and_self, if_true, if_false, reduceCtorEq, Nat.reduceLeDiff, Nat.reduceLT, Nat.reduceAdd, Nat.reduceEqDiff, false_and, and_false, exists_const, exists_eq_left, exists_eq_left', exists_and_left, and_assoc]; exact z74 ok) (by simp only [true_or, or_true, or_false, false_or, or_self, Int32.reduceLT, Int32.reduceLE, Nat.add_zero, Nat.zero_add, Nat.not_lt_zero, not_false_eq_true, not_true_eq_false, and_assoc, kl_q, kl_i, kl_r, kl_n, kl_0, kl_l, cs_0, cs_i, cs_r, cs_n, cs_l, aRf_s, aRf_n, gi_wl, gi_wr, gl_wi, gl_wl, gl_wr, gr_wi, gr_wl, gr_wr, sh_wi, sh_wl, sh_wr, gl_cp, gr_cp, sh_cp, gl_rw, gr_rw, sh_rw, gi_rl, gr_rl, sh_rl, Option.toList_some, Option.toList_none, List.nil_append, List.cons_append, List.append_nil, Option.some.injEq, Prod.mk.injEq, and_true, true_and, and_self, if_true, if_false, reduceCtorEq, Nat.reduceLeDiff, Nat.reduceLT, Nat.reduceAdd, Nat.reduceEqDiff, false_and, and_false, exists_const, exists_eq_left, exists_eq_left', exists_and_left, and_assoc]; exact z346 ok) (by decide) (by decide)]
  simp (disch := omega) only [s6_0, s6_0n, s6_0q, s6_1, s6_1n, s6_1q, s6_2, s6_5, s6_8, s6_8n, s6_8q, s6_9, s6_11, s6_11n, s6_11q, s6_12, s6_15, s6_16, s6_17, s6_20, s6_23, s6_23n, s6_23q, s6_24, s6_24n, s6_24q, s6_25, s6_28, s6_31, s6_31n, s6_31q, s6_32, s6_32n, s6_32q, s6_33, s6_36, s6_39, s6_39n, s6_39q, s6_40, s6_40n, s6_40q, s6_41, s6_44, s6_44n, s6_44q, s6_45, s6_48, s6_48n, s6_48q, s6_49, s6_52, s6_55, s6_55n, s6_55q, s6_56, s6_59, s6_59n, s6_59q, s6_60, s6_63, s6_66, s6_67, s6_71, s6_71n, s6_71q, s6_72, s6_75, s6_78, s6_78n, s6_78q, s6_79, s6_82, s6_84, s6_84n, s6_84q, s6_85, s6_88, s6_90, s6_91, s6_92, s6_93, s6_94, s6_97, s6_100, s6_101, s6_105, s6_107, s6_110, s6_110n, s6_110q, s6_111, s6_114, s6_116, s6_117, s6_118, s6_121, s6_124, s6_125, s6_129, s6_129n, s6_129q, s6_130, s6_133, s6_136, s6_136n, s6_136q, s6_137, s6_140, s6_142, s6_143, s6_144, s6_145, s6_147, s6_149, s6_152, s6_154, s6_156, s6_159, s6_159n, s6_159q, s6_160, s6_163, s6_165, s6_165n, s6_165q, s6_166, s6_169, s6_171, s6_172, s6_175, s6_176, s6_179, s6_180, s6_181, s6_184, s6_187, true_or, or_true, or_false, false_or, or_self, Int32.reduceLT, Int32.reduceLE, Nat.add_zero, Nat.zero_add, Nat.not_lt_zero, not_false_eq_true, not_true_eq_false, and_assoc, kl_q, kl_i, kl_r, kl_n, kl_0, kl_l, cs_0, cs_i, cs_r, cs_n, cs_l, aRf_s, aRf_n, gi_wl, gi_wr, gl_wi, gl_wl, gl_wr, gr_wi, gr_wl, gr_wr, sh_wi, sh_wl, sh_wr, gl_cp, gr_cp, sh_cp, gl_rw, gr_rw, sh_rw, gi_rl, gr_rl, sh_rl, Option.toList_some, Option.toList_none, List.nil_append, List.cons_append, List.append_nil, Option.some.injEq, Prod.mk.injEq, and_true, true_and, and_self, if_true, if_false, reduceCtorEq, Nat.reduceLeDiff, Nat.reduceLT, Nat.reduceAdd, Nat.reduceEqDiff, false_and, and_false, exists_const, exists_eq_left, exists_eq_left', exists_and_left, and_assoc, nltL, nltR, nleL, nleR, neqL, neqR, naL, naR, nmL, nmR, nI_ltI, nI_leI, nI_eq, nI_add, nI_mul, nI_clamp, n0l, n0r, nm1, nm1', nm1l, nm1r, nm1g, nsL, nI_m1, Nat.add_sub_cancel, vpn, vpL, nclL, le32, leLL, leLN, leNL, leNN, inA, nb0, nb1, gi_wi_n, gi_wi_e, gi_rw_n, gi_rw_e, aWi_rw, z342 ok, z58 ok, z59 ok, z73 ok, r58_0 ok, r342_5 ok, r342_6 ok, r73_0 ok, r73_1 ok, a1, a2, a3, a4]
  rw [sp_row (n := 6) (by simp only [true_or, or_true, or_false, false_or, or_self, Int32.reduceLT, Int32.reduceLE, Nat.add_zero, Nat.zero_add, Nat.not_lt_zero, not_false_eq_true, not_true_eq_false, and_assoc, kl_q, kl_i, kl_r, kl_n, kl_0, kl_l, cs_0, cs_i, cs_r, cs_n, cs_l, aRf_s, aRf_n, gi_wl, gi_wr, gl_wi, gl_wl, gl_wr, gr_wi, gr_wl, gr_wr, sh_wi, sh_wl, sh_wr, gl_cp, gr_cp, sh_cp, gl_rw, gr_rw, sh_rw, gi_rl, gr_rl, sh_rl, Option.toList_some, Option.toList_none, List.nil_append, List.cons_append, List.append_nil, Option.some.injEq, Prod.mk.injEq, and_true, true_and, and_self, if_true, if_false, reduceCtorEq, Nat.reduceLeDiff, Nat.reduceLT, Nat.reduceAdd, Nat.reduceEqDiff, false_and, and_false, exists_const, exists_eq_left, exists_eq_left', exists_and_left, and_assoc]; exact z75 ok) (by simp only [true_or, or_true, or_false, false_or, or_self, Int32.reduceLT, Int32.reduceLE, Nat.add_zero, Nat.zero_add, Nat.not_lt_zero, not_false_eq_true, not_true_eq_false, and_assoc, kl_q, kl_i, kl_r, kl_n, kl_0, kl_l, cs_0, cs_i, cs_r, cs_n, cs_l, aRf_s, aRf_n, gi_wl, gi_wr, gl_wi, gl_wl, gl_wr, gr_wi, gr_wl, gr_wr, sh_wi, sh_wl, sh_wr, gl_cp, gr_cp, sh_cp, gl_rw, gr_rw, sh_rw, gi_rl, gr_rl, sh_rl, Option.toList_some, Option.toList_none, List.nil_append, List.cons_append, List.append_nil, Option.some.injEq, Prod.mk.injEq, and_true, true_and, and_self, if_true, if_false, reduceCtorEq, Nat.reduceLeDiff, Nat.reduceLT, Nat.reduceAdd, Nat.reduceEqDiff, false_and, and_false, exists_const, exists_eq_left, exists_eq_left', exists_and_left, and_assoc]; exact z347 ok) (by decide) (by decide)]
  simp (disch := omega) only [s6_0, s6_0n, s6_0q, s6_1, s6_1n, s6_1q, s6_2, s6_5, s6_8, s6_8n, s6_8q, s6_9, s6_11, s6_11n, s6_11q, s6_12, s6_15, s6_16, s6_17, s6_20, s6_23, s6_23n, s6_23q, s6_24, s6_24n, s6_24q, s6_25, s6_28, s6_31, s6_31n, s6_31q, s6_32, s6_32n, s6_32q, s6_33, s6_36, s6_39, s6_39n, s6_39q, s6_40, s6_40n, s6_40q, s6_41, s6_44, s6_44n, s6_44q, s6_45, s6_48, s6_48n, s6_48q, s6_49, s6_52, s6_55, s6_55n, s6_55q, s6_56, s6_59, s6_59n, s6_59q, s6_60, s6_63, s6_66, s6_67, s6_71, s6_71n, s6_71q, s6_72, s6_75, s6_78, s6_78n, s6_78q, s6_79, s6_82, s6_84, s6_84n, s6_84q, s6_85, s6_88, s6_90, s6_91, s6_92, s6_93, s6_94, s6_97, s6_100, s6_101, s6_105, s6_107, s6_110, s6_110n, s6_110q, s6_111, s6_114, s6_116, s6_117, s6_118, s6_121, s6_124, s6_125, s6_129, s6_129n, s6_129q, s6_130, s6_133, s6_136, s6_136n, s6_136q, s6_137, s6_140, s6_142, s6_143, s6_144, s6_145, s6_147, s6_149, s6_152, s6_154, s6_156, s6_159, s6_159n, s6_159q, s6_160, s6_163, s6_165, s6_165n, s6_165q, s6_166, s6_169, s6_171, s6_172, s6_175, s6_176, s6_179, s6_180, s6_181, s6_184, s6_187, true_or, or_true, or_false, false_or, or_self, Int32.reduceLT, Int32.reduceLE, Nat.add_zero, Nat.zero_add, Nat.not_lt_zero, not_false_eq_true, not_true_eq_false, and_assoc, kl_q, kl_i, kl_r, kl_n, kl_0, kl_l, cs_0, cs_i, cs_r, cs_n, cs_l, aRf_s, aRf_n, gi_wl, gi_wr, gl_wi, gl_wl, gl_wr, gr_wi, gr_wl, gr_wr, sh_wi, sh_wl, sh_wr, gl_cp, gr_cp, sh_cp, gl_rw, gr_rw, sh_rw, gi_rl, gr_rl, sh_rl, Option.toList_some, Option.toList_none, List.nil_append, List.cons_append, List.append_nil, Option.some.injEq, Prod.mk.injEq, and_true, true_and, and_self, if_true, if_false, reduceCtorEq, Nat.reduceLeDiff, Nat.reduceLT, Nat.reduceAdd, Nat.reduceEqDiff, false_and, and_false, exists_const, exists_eq_left, exists_eq_left', exists_and_left, and_assoc, nltL, nltR, nleL, nleR, neqL, neqR, naL, naR, nmL, nmR, nI_ltI, nI_leI, nI_eq, nI_add, nI_mul, nI_clamp, n0l, n0r, nm1, nm1', nm1l, nm1r, nm1g, nsL, nI_m1, Nat.add_sub_cancel, vpn, vpL, nclL, le32, leLL, leLN, leNL, leNN, inA, nb0, nb1, gi_wi_n, gi_wi_e, gi_rw_n, gi_rw_e, aWi_rw, z342 ok, z58 ok, z59 ok, z73 ok, aCp_rw]
  generalize h11 : aRw (aRw (aWr (aWi (aWi (aWi (aWi h 342 11 (nI M)) 342 12 (nI L)) 342 13 (nI P)) 342 14 mud) 342 15 lr) 346 _) 347 _ = h1
  have s1 : Same g h1 := by
    rw [← h11]
    exact ((((((sa.wi rfl).wi rfl).wi rfl).wi rfl).wr).rw (fun k => rfl)).rw (fun k => rfl)
  have b1 : gi h1 342 11 = nI M ∧ gi h1 342 12 = nI L ∧ gi h1 342 13 = nI P ∧ gi h1 342 14 = mud ∧ gr h1 342 15 = lr := by
    rw [← h11]
    simp [gi_rw, gr_rw, gr_wr, gi_wr, gi_wi]
  have b2 : ∀ k, k < M → gi h1 346 k = st k ∧ gi h1 347 k = vo k := by
    intro k hk
    rw [← h11, ← (hsv k hk).1, ← (hsv k hk).2, ← sa.2 74 k rfl, ← sa.2 75 k rfl]
    have : k < 6 := by omega
    simp [gi_rw, gi_wr, gi_wi, this]
  clear h11
  have ok := s1.1
  refine aLoop M (fun k lv h' => lv = [some (.ref 342), some (.ref 58), some (.ref 73), some (aRf lr), some (.int (nI k)), none] ∧ h' = aRw h1 348 (fun j => if j < k then rkG g j else gi h1 348 j)) ?_ ?_ 0 _ _ (Nat.zero_le _) ⟨rfl, ?_⟩
  · rintro k lv h' hk ⟨rfl, rfl⟩ hk2
    have k6 : k < 6 := by omega
    have e1 : ¬ M ≤ k := by omega
    have e2 : gi h1 (61 + k) 3 = rkG g k := by
      rw [s1.2 _ _ (by have : k = 0 ∨ k = 1 ∨ k = 2 ∨ k = 3 ∨ k = 4 ∨ k = 5 := by omega
                       rcases this with rfl | rfl | rfl | rfl | rfl | rfl <;> rfl), (t14 k hk).1]
      rfl
    rw [s6_69]
    simp (disch := omega) only [s6_0, s6_0n, s6_0q, s6_1, s6_1n, s6_1q, s6_2, s6_5, s6_8, s6_8n, s6_8q, s6_9, s6_11, s6_11n, s6_11q, s6_12, s6_15, s6_16, s6_17, s6_20, s6_23, s6_23n, s6_23q, s6_24, s6_24n, s6_24q, s6_25, s6_28, s6_31, s6_31n, s6_31q, s6_32, s6_32n, s6_32q, s6_33, s6_36, s6_39, s6_39n, s6_39q, s6_40, s6_40n, s6_40q, s6_41, s6_44, s6_44n, s6_44q, s6_45, s6_48, s6_48n, s6_48q, s6_49, s6_52, s6_55, s6_55n, s6_55q, s6_56, s6_59, s6_59n, s6_59q, s6_60, s6_63, s6_66, s6_67, s6_71, s6_71n, s6_71q, s6_72, s6_75, s6_78, s6_78n, s6_78q, s6_79, s6_82, s6_84, s6_84n, s6_84q, s6_85, s6_88, s6_90, s6_91, s6_92, s6_93, s6_94, s6_97, s6_100, s6_101, s6_105, s6_107, s6_110, s6_110n, s6_110q, s6_111, s6_114, s6_116, s6_117, s6_118, s6_121, s6_124, s6_125, s6_129, s6_129n, s6_129q, s6_130, s6_133, s6_136, s6_136n, s6_136q, s6_137, s6_140, s6_142, s6_143, s6_144, s6_145, s6_147, s6_149, s6_152, s6_154, s6_156, s6_159, s6_159n, s6_159q, s6_160, s6_163, s6_165, s6_165n, s6_165q, s6_166, s6_169, s6_171, s6_172, s6_175, s6_176, s6_179, s6_180, s6_181, s6_184, s6_187, true_or, or_true, or_false, false_or, or_self, Int32.reduceLT, Int32.reduceLE, Nat.add_zero, Nat.zero_add, Nat.not_lt_zero, not_false_eq_true, not_true_eq_false, and_assoc, kl_q, kl_i, kl_r, kl_n, kl_0, kl_l, cs_0, cs_i, cs_r, cs_n, cs_l, aRf_s, aRf_n, gi_wl, gi_wr, gl_wi, gl_wl, gl_wr, gr_wi, gr_wl, gr_wr, sh_wi, sh_wl, sh_wr, gl_cp, gr_cp, sh_cp, gl_rw, gr_rw, sh_rw, gi_rl, gr_rl, sh_rl, Option.toList_some, Option.toList_none, List.nil_append, List.cons_append, List.append_nil, Option.some.injEq, Prod.mk.injEq, and_true, true_and, and_self, if_true, if_false, reduceCtorEq, Nat.reduceLeDiff, Nat.reduceLT, Nat.reduceAdd, Nat.reduceEqDiff, false_and, and_false, exists_const, exists_eq_left, exists_eq_left', exists_and_left, and_assoc, nltL, nltR, nleL, nleR, neqL, neqR, naL, naR, nmL, nmR, nI_ltI, nI_leI, nI_eq, nI_add, nI_mul, nI_clamp, n0l, n0r, nm1, nm1', nm1l, nm1r, nm1g, nsL, nI_m1, Nat.add_sub_cancel, vpn, vpL, nclL, le32, leLL, leLN, leNL, leNN, inA, nb0, nb1, gi_wi_n, gi_wi_e, gi_rw_n, gi_rw_e, aWi_rw, z342 ok, z58 ok, z60 ok, z348 ok, r58_1 ok, r342_7 ok, b1.1, e1, e2, k6, g60 ok k6, q61 ok k6]
    refine hk2 _ _ ⟨rfl, ?_⟩
    congr 1
    funext j
    by_cases hj : j = k
    · subst hj
      rw [if_pos rfl, if_pos (by omega)]
    · rw [if_neg hj]
      by_cases hj2 : j < k
      · rw [if_pos hj2, if_pos (by omega)]
      · rw [if_neg hj2, if_neg (by omega)]
  · rintro lv h' ⟨rfl, rfl⟩
    rw [s6_69]
    simp (disch := omega) only [s6_0, s6_0n, s6_0q, s6_1, s6_1n, s6_1q, s6_2, s6_5, s6_8, s6_8n, s6_8q, s6_9, s6_11, s6_11n, s6_11q, s6_12, s6_15, s6_16, s6_17, s6_20, s6_23, s6_23n, s6_23q, s6_24, s6_24n, s6_24q, s6_25, s6_28, s6_31, s6_31n, s6_31q, s6_32, s6_32n, s6_32q, s6_33, s6_36, s6_39, s6_39n, s6_39q, s6_40, s6_40n, s6_40q, s6_41, s6_44, s6_44n, s6_44q, s6_45, s6_48, s6_48n, s6_48q, s6_49, s6_52, s6_55, s6_55n, s6_55q, s6_56, s6_59, s6_59n, s6_59q, s6_60, s6_63, s6_66, s6_67, s6_71, s6_71n, s6_71q, s6_72, s6_75, s6_78, s6_78n, s6_78q, s6_79, s6_82, s6_84, s6_84n, s6_84q, s6_85, s6_88, s6_90, s6_91, s6_92, s6_93, s6_94, s6_97, s6_100, s6_101, s6_105, s6_107, s6_110, s6_110n, s6_110q, s6_111, s6_114, s6_116, s6_117, s6_118, s6_121, s6_124, s6_125, s6_129, s6_129n, s6_129q, s6_130, s6_133, s6_136, s6_136n, s6_136q, s6_137, s6_140, s6_142, s6_143, s6_144, s6_145, s6_147, s6_149, s6_152, s6_154, s6_156, s6_159, s6_159n, s6_159q, s6_160, s6_163, s6_165, s6_165n, s6_165q, s6_166, s6_169, s6_171, s6_172, s6_175, s6_176, s6_179, s6_180, s6_181, s6_184, s6_187, true_or, or_true, or_false, false_or, or_self, Int32.reduceLT, Int32.reduceLE, Nat.add_zero, Nat.zero_add, Nat.not_lt_zero, not_false_eq_true, not_true_eq_false, and_assoc, kl_q, kl_i, kl_r, kl_n, kl_0, kl_l, cs_0, cs_i, cs_r, cs_n, cs_l, aRf_s, aRf_n, gi_wl, gi_wr, gl_wi, gl_wl, gl_wr, gr_wi, gr_wl, gr_wr, sh_wi, sh_wl, sh_wr, gl_cp, gr_cp, sh_cp, gl_rw, gr_rw, sh_rw, gi_rl, gr_rl, sh_rl, Option.toList_some, Option.toList_none, List.nil_append, List.cons_append, List.append_nil, Option.some.injEq, Prod.mk.injEq, and_true, true_and, and_self, if_true, if_false, reduceCtorEq, Nat.reduceLeDiff, Nat.reduceLT, Nat.reduceAdd, Nat.reduceEqDiff, false_and, and_false, exists_const, exists_eq_left, exists_eq_left', exists_and_left, and_assoc, nltL, nltR, nleL, nleR, neqL, neqR, naL, naR, nmL, nmR, nI_ltI, nI_leI, nI_eq, nI_add, nI_mul, nI_clamp, n0l, n0r, nm1, nm1', nm1l, nm1r, nm1g, nsL, nI_m1, Nat.add_sub_cancel, vpn, vpL, nclL, le32, leLL, leLN, leNL, leNN, inA, nb0, nb1, gi_wi_n, gi_wi_e, gi_rw_n, gi_rw_e, aWi_rw, z342 ok, b1.1, Nat.le_refl]
    generalize h22 : aRw h1 348 _ = h2
    have s2 : Same g h2 := by
      rw [← h22]
      exact s1.rw (fun k => rfl)
    have b3 : gi h2 342 11 = nI M ∧ gi h2 342 12 = nI L ∧ gi h2 342 13 = nI P ∧ gi h2 342 14 = mud ∧ gr h2 342 15 = lr := by
      rw [← h22]
      simp only [gr_rw]
      rw [gi_rw_n (by decide), gi_rw_n (by decide), gi_rw_n (by decide), gi_rw_n (by decide)]
      exact b1
    have b4 : ∀ k, k < M → gi h2 346 k = st k ∧ gi h2 347 k = vo k ∧ gi h2 348 k = rkG g k := by
      intro k hk
      rw [← h22, gi_rw_n (by decide), gi_rw_n (by decide), gi_rw_e, if_pos hk]
      exact ⟨(b2 k hk).1, (b2 k hk).2, rfl⟩
    clear h22 b1 b2
    have ok := s2.1
    refine aLoop 31 (fun k lv h' => lv = [some (.ref 342), some (.ref 58), some (.ref 73), some (aRf lr), some (.int (nI k)), none] ∧ h' = aRw h2 349 (fillF (gi h2 349) k 0)) ?_ ?_ 0 _ _ (Nat.zero_le _) ⟨rfl, ?_⟩
    · rintro k lv h' hk ⟨rfl, rfl⟩ hk2
      have e1 : ¬ 30 < k := by omega
      rw [s6_103]
      simp (disch := omega) only [s6_0, s6_0n, s6_0q, s6_1, s6_1n, s6_1q, s6_2, s6_5, s6_8, s6_8n, s6_8q, s6_9, s6_11, s6_11n, s6_11q, s6_12, s6_15, s6_16, s6_17, s6_20, s6_23, s6_23n, s6_23q, s6_24, s6_24n, s6_24q, s6_25, s6_28, s6_31, s6_31n, s6_31q, s6_32, s6_32n, s6_32q, s6_33, s6_36, s6_39, s6_39n, s6_39q, s6_40, s6_40n, s6_40q, s6_41, s6_44, s6_44n, s6_44q, s6_45, s6_48, s6_48n, s6_48q, s6_49, s6_52, s6_55, s6_55n, s6_55q, s6_56, s6_59, s6_59n, s6_59q, s6_60, s6_63, s6_66, s6_67, s6_71, s6_71n, s6_71q, s6_72, s6_75, s6_78, s6_78n, s6_78q, s6_79, s6_82, s6_84, s6_84n, s6_84q, s6_85, s6_88, s6_90, s6_91, s6_92, s6_93, s6_94, s6_97, s6_100, s6_101, s6_105, s6_107, s6_110, s6_110n, s6_110q, s6_111, s6_114, s6_116, s6_117, s6_118, s6_121, s6_124, s6_125, s6_129, s6_129n, s6_129q, s6_130, s6_133, s6_136, s6_136n, s6_136q, s6_137, s6_140, s6_142, s6_143, s6_144, s6_145, s6_147, s6_149, s6_152, s6_154, s6_156, s6_159, s6_159n, s6_159q, s6_160, s6_163, s6_165, s6_165n, s6_165q, s6_166, s6_169, s6_171, s6_172, s6_175, s6_176, s6_179, s6_180, s6_181, s6_184, s6_187, true_or, or_true, or_false, false_or, or_self, Int32.reduceLT, Int32.reduceLE, Nat.add_zero, Nat.zero_add, Nat.not_lt_zero, not_false_eq_true, not_true_eq_false, and_assoc, kl_q, kl_i, kl_r, kl_n, kl_0, kl_l, cs_0, cs_i, cs_r, cs_n, cs_l, aRf_s, aRf_n, gi_wl, gi_wr, gl_wi, gl_wl, gl_wr, gr_wi, gr_wl, gr_wr, sh_wi, sh_wl, sh_wr, gl_cp, gr_cp, sh_cp, gl_rw, gr_rw, sh_rw, gi_rl, gr_rl, sh_rl, Option.toList_some, Option.toList_none, List.nil_append, List.cons_append, List.append_nil, Option.some.injEq, Prod.mk.injEq, and_true, true_and, and_self, if_true, if_false, reduceCtorEq, Nat.reduceLeDiff, Nat.reduceLT, Nat.reduceAdd, Nat.reduceEqDiff, false_and, and_false, exists_const, exists_eq_left, exists_eq_left', exists_and_left, and_assoc, nltL, nltR, nleL, nleR, neqL, neqR, naL, naR, nmL, nmR, nI_ltI, nI_leI, nI_eq, nI_add, nI_mul, nI_clamp, n0l, n0r, nm1, nm1', nm1l, nm1r, nm1g, nsL, nI_m1, Nat.add_sub_cancel, vpn, vpL, nclL, le32, leLL, leLN, leNL, leNN, inA, nb0, nb1, gi_wi_n, gi_wi_e, gi_rw_n, gi_rw_e, aWi_rw, z342 ok, z349 ok, r342_8 ok, e1, hk, i01]
      refine hk2 _ _ ⟨rfl, ?_⟩
      congr 1
      funext i
      simp only [fillF]
      by_cases h1 : i = k
      · rw [if_pos h1, if_pos (by omega)]
      · rw [if_neg h1]
        by_cases h2 : i < k
        · rw [if_pos h2, if_pos (by omega)]
        · rw [if_neg h2, if_neg (by omega)]
    · rintro lv h' ⟨rfl, rfl⟩
      have e1 : 30 < 31 := by decide
      rw [s6_103]
      simp (disch := omega) only [s6_0, s6_0n, s6_0q, s6_1, s6_1n, s6_1q, s6_2, s6_5, s6_8, s6_8n, s6_8q, s6_9, s6_11, s6_11n, s6_11q, s6_12, s6_15, s6_16, s6_17, s6_20, s6_23, s6_23n, s6_23q, s6_24, s6_24n, s6_24q, s6_25, s6_28, s6_31, s6_31n, s6_31q, s6_32, s6_32n, s6_32q, s6_33, s6_36, s6_39, s6_39n, s6_39q, s6_40, s6_40n, s6_40q, s6_41, s6_44, s6_44n, s6_44q, s6_45, s6_48, s6_48n, s6_48q, s6_49, s6_52, s6_55, s6_55n, s6_55q, s6_56, s6_59, s6_59n, s6_59q, s6_60, s6_63, s6_66, s6_67, s6_71, s6_71n, s6_71q, s6_72, s6_75, s6_78, s6_78n, s6_78q, s6_79, s6_82, s6_84, s6_84n, s6_84q, s6_85, s6_88, s6_90, s6_91, s6_92, s6_93, s6_94, s6_97, s6_100, s6_101, s6_105, s6_107, s6_110, s6_110n, s6_110q, s6_111, s6_114, s6_116, s6_117, s6_118, s6_121, s6_124, s6_125, s6_129, s6_129n, s6_129q, s6_130, s6_133, s6_136, s6_136n, s6_136q, s6_137, s6_140, s6_142, s6_143, s6_144, s6_145, s6_147, s6_149, s6_152, s6_154, s6_156, s6_159, s6_159n, s6_159q, s6_160, s6_163, s6_165, s6_165n, s6_165q, s6_166, s6_169, s6_171, s6_172, s6_175, s6_176, s6_179, s6_180, s6_181, s6_184, s6_187, true_or, or_true, or_false, false_or, or_self, Int32.reduceLT, Int32.reduceLE, Nat.add_zero, Nat.zero_add, Nat.not_lt_zero, not_false_eq_true, not_true_eq_false, and_assoc, kl_q, kl_i, kl_r, kl_n, kl_0, kl_l, cs_0, cs_i, cs_r, cs_n, cs_l, aRf_s, aRf_n, gi_wl, gi_wr, gl_wi, gl_wl, gl_wr, gr_wi, gr_wl, gr_wr, sh_wi, sh_wl, sh_wr, gl_cp, gr_cp, sh_cp, gl_rw, gr_rw, sh_rw, gi_rl, gr_rl, sh_rl, Option.toList_some, Option.toList_none, List.nil_append, List.cons_append, List.append_nil, Option.some.injEq, Prod.mk.injEq, and_true, true_and, and_self, if_true, if_false, reduceCtorEq, Nat.reduceLeDiff, Nat.reduceLT, Nat.reduceAdd, Nat.reduceEqDiff, false_and, and_false, exists_const, exists_eq_left, exists_eq_left', exists_and_left, and_assoc, nltL, nltR, nleL, nleR, neqL, neqR, naL, naR, nmL, nmR, nI_ltI, nI_leI, nI_eq, nI_add, nI_mul, nI_clamp, n0l, n0r, nm1, nm1', nm1l, nm1r, nm1g, nsL, nI_m1, Nat.add_sub_cancel, vpn, vpL, nclL, le32, leLL, leLN, leNL, leNN, inA, nb0, nb1, gi_wi_n, gi_wi_e, gi_rw_n, gi_rw_e, aWi_rw, z342 ok, e1]
      refine aLoop F (fun f lv h' => ∃ w, lv = [some (.ref 342), some (.ref 58), some (.ref 73), some (aRf lr), some (.int (nI f)), w] ∧ h' = aRw h2 349 (fun s => if s < 31 then bI (wetB (plG g) dp f s) else gi h2 349 s)) ?_ ?_ 0 _ _ (Nat.zero_le _) ⟨none, rfl, ?_⟩
      · rintro f lv h' hf ⟨w, rfl, rfl⟩ hk2
        have f5 : f < 5 := by omega
        have e1 : ¬ F ≤ f := by omega
        obtain ⟨e2, p, hp, e3⟩ := t15 f hf
        have e4 : gi h2 (68 + f) 0 = nI p := by
          rw [s2.2 _ _ (by have : f = 0 ∨ f = 1 ∨ f = 2 ∨ f = 3 ∨ f = 4 := by omega
                           rcases this with rfl | rfl | rfl | rfl | rfl <;> rfl), e2, e3]
        have e5 : gi h2 78 f = dp f := by rw [s2.2 _ _ rfl, hdp f hf]
        have e6 : gi h2 58 4 = nI F := by rw [s2.2 _ _ rfl, t8]
        have e7 : ¬ 30 < p := by omega
        have e8 : p < 31 := by omega
        have hpl : plG g f = nI p := e3
        have key : ∀ b : Int32, b = (if 0 < dp f then 1 else 0) → (fun j => if j = p then b else if j < 31 then bI (wetB (plG g) dp f j) else gi h2 349 j) = fun s => if s < 31 then bI (wetB (plG g) dp (f + 1) s) else gi h2 349 s := by
          intro b hb
          funext j
          by_cases hj : j = p
          · subst hj
            rw [if_pos rfl, if_pos e8, wetB, wetB_f, hpl, hb]
            · by_cases hd : 0 < dp f <;> simp [hd, bI]
            · intro i hi hc
              have := t16 i f (by omega) hf (by rw [e3]; exact hc)
              omega
          · rw [if_neg hj]
            by_cases hj2 : j < 31
            · rw [if_pos hj2, if_pos hj2, wetB, hpl]
              have : ¬ nI p = nI j := fun q => hj ((nI_eq (by omega) (by omega)).mp q).symm
              simp [this]
            · rw [if_neg hj2, if_neg hj2]
        rw [s6_127]
        simp (disch := omega) only [s6_0, s6_0n, s6_0q, s6_1, s6_1n, s6_1q, s6_2, s6_5, s6_8, s6_8n, s6_8q, s6_9, s6_11, s6_11n, s6_11q, s6_12, s6_15, s6_16, s6_17, s6_20, s6_23, s6_23n, s6_23q, s6_24, s6_24n, s6_24q, s6_25, s6_28, s6_31, s6_31n, s6_31q, s6_32, s6_32n, s6_32q, s6_33, s6_36, s6_39, s6_39n, s6_39q, s6_40, s6_40n, s6_40q, s6_41, s6_44, s6_44n, s6_44q, s6_45, s6_48, s6_48n, s6_48q, s6_49, s6_52, s6_55, s6_55n, s6_55q, s6_56, s6_59, s6_59n, s6_59q, s6_60, s6_63, s6_66, s6_67, s6_71, s6_71n, s6_71q, s6_72, s6_75, s6_78, s6_78n, s6_78q, s6_79, s6_82, s6_84, s6_84n, s6_84q, s6_85, s6_88, s6_90, s6_91, s6_92, s6_93, s6_94, s6_97, s6_100, s6_101, s6_105, s6_107, s6_110, s6_110n, s6_110q, s6_111, s6_114, s6_116, s6_117, s6_118, s6_121, s6_124, s6_125, s6_129, s6_129n, s6_129q, s6_130, s6_133, s6_136, s6_136n, s6_136q, s6_137, s6_140, s6_142, s6_143, s6_144, s6_145, s6_147, s6_149, s6_152, s6_154, s6_156, s6_159, s6_159n, s6_159q, s6_160, s6_163, s6_165, s6_165n, s6_165q, s6_166, s6_169, s6_171, s6_172, s6_175, s6_176, s6_179, s6_180, s6_181, s6_184, s6_187, true_or, or_true, or_false, false_or, or_self, Int32.reduceLT, Int32.reduceLE, Nat.add_zero, Nat.zero_add, Nat.not_lt_zero, not_false_eq_true, not_true_eq_false, and_assoc, kl_q, kl_i, kl_r, kl_n, kl_0, kl_l, cs_0, cs_i, cs_r, cs_n, cs_l, aRf_s, aRf_n, gi_wl, gi_wr, gl_wi, gl_wl, gl_wr, gr_wi, gr_wl, gr_wr, sh_wi, sh_wl, sh_wr, gl_cp, gr_cp, sh_cp, gl_rw, gr_rw, sh_rw, gi_rl, gr_rl, sh_rl, Option.toList_some, Option.toList_none, List.nil_append, List.cons_append, List.append_nil, Option.some.injEq, Prod.mk.injEq, and_true, true_and, and_self, if_true, if_false, reduceCtorEq, Nat.reduceLeDiff, Nat.reduceLT, Nat.reduceAdd, Nat.reduceEqDiff, false_and, and_false, exists_const, exists_eq_left, exists_eq_left', exists_and_left, and_assoc, nltL, nltR, nleL, nleR, neqL, neqR, naL, naR, nmL, nmR, nI_ltI, nI_leI, nI_eq, nI_add, nI_mul, nI_clamp, n0l, n0r, nm1, nm1', nm1l, nm1r, nm1g, nsL, nI_m1, Nat.add_sub_cancel, vpn, vpL, nclL, le32, leLL, leLN, leNL, leNN, inA, nb0, nb1, gi_wi_n, gi_wi_e, gi_rw_n, gi_rw_e, aWi_rw, z342 ok, z58 ok, z67 ok, z349 ok, z73 ok, z78 ok, r58_2 ok, r342_8 ok, r73_4 ok, e1, e4, e5, e6, e7, e8, f5, g67 ok f5, q68 ok f5, i01, i11]
        by_cases hd : 0 < dp f
        · rw [if_neg (Int32.not_le.mpr hd)]
          exact hk2 _ _ ⟨_, rfl, by rw [key 1 (by rw [if_pos hd])]⟩
        · rw [if_pos (Int32.not_lt.mp hd)]
          exact hk2 _ _ ⟨_, rfl, by rw [key 0 (by rw [if_neg hd])]⟩
      · rintro lv h' ⟨w, rfl, rfl⟩
        have e6 : gi h2 58 4 = nI F := by rw [s2.2 _ _ rfl, t8]
        rw [s6_127]
        simp (disch := omega) only [s6_0, s6_0n, s6_0q, s6_1, s6_1n, s6_1q, s6_2, s6_5, s6_8, s6_8n, s6_8q, s6_9, s6_11, s6_11n, s6_11q, s6_12, s6_15, s6_16, s6_17, s6_20, s6_23, s6_23n, s6_23q, s6_24, s6_24n, s6_24q, s6_25, s6_28, s6_31, s6_31n, s6_31q, s6_32, s6_32n, s6_32q, s6_33, s6_36, s6_39, s6_39n, s6_39q, s6_40, s6_40n, s6_40q, s6_41, s6_44, s6_44n, s6_44q, s6_45, s6_48, s6_48n, s6_48q, s6_49, s6_52, s6_55, s6_55n, s6_55q, s6_56, s6_59, s6_59n, s6_59q, s6_60, s6_63, s6_66, s6_67, s6_71, s6_71n, s6_71q, s6_72, s6_75, s6_78, s6_78n, s6_78q, s6_79, s6_82, s6_84, s6_84n, s6_84q, s6_85, s6_88, s6_90, s6_91, s6_92, s6_93, s6_94, s6_97, s6_100, s6_101, s6_105, s6_107, s6_110, s6_110n, s6_110q, s6_111, s6_114, s6_116, s6_117, s6_118, s6_121, s6_124, s6_125, s6_129, s6_129n, s6_129q, s6_130, s6_133, s6_136, s6_136n, s6_136q, s6_137, s6_140, s6_142, s6_143, s6_144, s6_145, s6_147, s6_149, s6_152, s6_154, s6_156, s6_159, s6_159n, s6_159q, s6_160, s6_163, s6_165, s6_165n, s6_165q, s6_166, s6_169, s6_171, s6_172, s6_175, s6_176, s6_179, s6_180, s6_181, s6_184, s6_187, true_or, or_true, or_false, false_or, or_self, Int32.reduceLT, Int32.reduceLE, Nat.add_zero, Nat.zero_add, Nat.not_lt_zero, not_false_eq_true, not_true_eq_false, and_assoc, kl_q, kl_i, kl_r, kl_n, kl_0, kl_l, cs_0, cs_i, cs_r, cs_n, cs_l, aRf_s, aRf_n, gi_wl, gi_wr, gl_wi, gl_wl, gl_wr, gr_wi, gr_wl, gr_wr, sh_wi, sh_wl, sh_wr, gl_cp, gr_cp, sh_cp, gl_rw, gr_rw, sh_rw, gi_rl, gr_rl, sh_rl, Option.toList_some, Option.toList_none, List.nil_append, List.cons_append, List.append_nil, Option.some.injEq, Prod.mk.injEq, and_true, true_and, and_self, if_true, if_false, reduceCtorEq, Nat.reduceLeDiff, Nat.reduceLT, Nat.reduceAdd, Nat.reduceEqDiff, false_and, and_false, exists_const, exists_eq_left, exists_eq_left', exists_and_left, and_assoc, nltL, nltR, nleL, nleR, neqL, neqR, naL, naR, nmL, nmR, nI_ltI, nI_leI, nI_eq, nI_add, nI_mul, nI_clamp, n0l, n0r, nm1, nm1', nm1l, nm1r, nm1g, nsL, nI_m1, Nat.add_sub_cancel, vpn, vpL, nclL, le32, leLL, leLN, leNL, leNN, inA, nb0, nb1, gi_wi_n, gi_wi_e, gi_rw_n, gi_rw_e, aWi_rw, z342 ok, z58 ok, e6, Nat.le_refl]
        refine hq _ ⟨s2.rw (fun k => rfl), ?_, ?_, ?_, ?_, ?_, ?_, ?_⟩
        · rw [gi_rw_n (by decide)]
          exact b3.1
        · rw [gi_rw_n (by decide)]
          exact b3.2.1
        · rw [gi_rw_n (by decide)]
          exact b3.2.2.1
        · rw [gi_rw_n (by decide)]
          exact b3.2.2.2.1
        · rw [gr_rw, hlr]
          exact b3.2.2.2.2
        · intro k hk
          rw [gi_rw_n (by decide), gi_rw_n (by decide), gi_rw_n (by decide)]
          exact b4 k hk
        · intro s hs
          rw [gi_rw_e, if_pos (by omega)]
          rfl
      · congr 1
    · have : fillF (gi h2 349) 0 0 = gi h2 349 := by
        funext j
        simp [fillF]
      rw [this, aRw_0]
  · have : (fun j => if j < 0 then rkG g j else gi h1 348 j) = gi h1 348 := by
      funext j
      simp
    rw [this, aRw_0]
