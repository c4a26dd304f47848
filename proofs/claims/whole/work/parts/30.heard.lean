-- deps: 29.ctx
/-! ===== the reference: HEARD, the loudest ===== -/
def SameN (g h : aM) : Prop := OK h ∧ ∀ a k, Scr a k = false → ¬ a = 416 → gi h a k = gi g a k
def NowP (h : aM) (M F : Nat) (st vo dp : Nat → Int32) (P : Nat) (mud : Int32) : Prop := (∀ k, k < M → gi h 416 k = st k ∧ gi h 416 (6 + k) = vo k) ∧ (∀ f, f < F → gi h 416 (24 + f) = dp f) ∧ gi h 416 29 = nI P ∧ gi h 416 30 = mud
theorem Same.n {g h : aM} (s : Same g h) : SameN g h := ⟨s.1, fun a k q _ => s.2 a k q⟩
theorem SameN.sml {g h h' : aM} (s : SameN g h) (t : SmL h h') : SameN g h' := ⟨t.1, fun a k q r => by
  rw [t.2.2.2 a k, s.2 a k q r]
  cases e : LSc a
  · rfl
  · rw [lsc_scr e] at q
    cases q⟩
theorem NowP.sml {h h' : aM} {M F : Nat} {st vo dp : Nat → Int32} {P : Nat} {mud : Int32} (n : NowP h M F st vo dp P mud) (s : SmL h h') : NowP h' M F st vo dp P mud := by
  obtain ⟨n1, n2, n3, n4⟩ := n
  refine ⟨fun k hk => ?_, fun f hf => ?_, ?_, ?_⟩
  · rw [s.2.2.2 _ _ rfl, s.2.2.2 _ _ rfl]
    exact n1 k hk
  · rw [s.2.2.2 _ _ rfl]
    exact n2 f hf
  · rw [s.2.2.2 _ _ rfl, n3]
  · rw [s.2.2.2 _ _ rfl, n4]
def bI (b : Bool) : Int32 := if b = true then 1 else 0
theorem nbI (b : Bool) : narrow .boolean (.int (bI b)) = .int (bI b) := by cases b <;> rfl
theorem bI_0 (b : Bool) : bI b = 0 ↔ b = false := by cases b <;> simp [bI]
theorem bI_1 (b : Bool) : bI b = 1 ↔ b = true := by cases b <;> simp [bI]
theorem LwR.sameN {g h : aM} {i : Nat} (l : LwR g i) (s : SameN g h) (hi : i < 4) : LwR h i := by
  have t : ∀ k, Scr (375 + 6 * i) k = false ∧ Scr (376 + 6 * i) k = false ∧ Scr (377 + 6 * i) k = false ∧ Scr (378 + 6 * i) k = false := fun k =>
    four (P := fun i => Scr (375 + 6 * i) k = false ∧ Scr (376 + 6 * i) k = false ∧ Scr (377 + 6 * i) k = false ∧ Scr (378 + 6 * i) k = false) ⟨rfl, rfl, rfl, rfl⟩ ⟨rfl, rfl, rfl, rfl⟩ ⟨rfl, rfl, rfl, rfl⟩ ⟨rfl, rfl, rfl, rfl⟩ hi
  have e1 : ∀ k, gi h (375 + 6 * i) k = gi g (375 + 6 * i) k := fun k => s.2 _ _ (t k).1 (by omega)
  have e2 : ∀ k, gi h (376 + 6 * i) k = gi g (376 + 6 * i) k := fun k => s.2 _ _ (t k).2.1 (by omega)
  have e3 : ∀ k, gi h (377 + 6 * i) k = gi g (377 + 6 * i) k := fun k => s.2 _ _ (t k).2.2.1 (by omega)
  have e4 : ∀ k, gi h (378 + 6 * i) k = gi g (378 + 6 * i) k := fun k => s.2 _ _ (t k).2.2.2 (by omega)
  have e5 : ∀ k, gi h 401 k = gi g 401 k := fun k => s.2 _ _ rfl (by omega)
  have e6 : ∀ k, gi h 402 k = gi g 402 k := fun k => s.2 _ _ rfl (by omega)
  have e7 : ∀ k, gi h 404 k = gi g 404 k := fun k => s.2 _ _ rfl (by omega)
  have e8 : ∀ k, gi h 405 k = gi g 405 k := fun k => s.2 _ _ rfl (by omega)
  have e9 : ∀ k, gi h 406 k = gi g 406 k := fun k => s.2 _ _ rfl (by omega)
  have e10 : ∀ k, gi h 407 k = gi g 407 k := fun k => s.2 _ _ rfl (by omega)
  have e11 : ∀ p, segC h i p = segC g i p := fun p => funext fun q => e5 _
  unfold LwR at l ⊢
  simp only [e1, e2, e3, e4, e5, e6, e7, e8, e9, e10, e11]
  exact l
theorem m_wet {d : Nat} {g h : aM} {Q : Option Value → aM → Prop} {M F L W : Nat} {st vo dp : Nat → Int32} {P : Nat} {mud : Int32} {s : Nat} (it : ITold g M F L W) (sn : SameN g h) (np : NowP h M F st vo dp P mud) (hs : s < 2 ^ 31)
    (hq : Q (some (.int (bI (wetB (plG g) dp F s)))) h) : AW d 210 0 [some (.ref 399), some (.int (nI s)), none, none] [] h Q := by
  have ok := sn.1
  have hF : F ≤ 5 := it.2.1
  have c1 : gi h 399 26 = nI F := by rw [sn.2 _ _ rfl (by omega), it.2.2.2.2.2.2.2.2.1]
  simp (disch := omega) only [s210_0, s210_1, s210_2, s210_3, s210_5, s210_6, s210_9, s210_12, s210_13, s210_16, s210_17, s210_20, s210_21, s210_22, s210_23, s210_24, s210_25, s210_26, s210_27, s210_30, s210_31, s210_34, s210_36, s210_37, s210_38, s210_39, s210_42, s210_43, s210_46, s210_47, s210_48, s210_51, s210_54, s210_55, true_or, or_true, or_false, false_or, or_self, Int32.reduceLT, Int32.reduceLE, Nat.add_zero, Nat.zero_add, Nat.not_lt_zero, not_false_eq_true, not_true_eq_false, and_assoc, kl_q, kl_i, kl_r, kl_n, kl_0, kl_l, cs_0, cs_i, cs_r, cs_n, cs_l, aRf_s, aRf_n, gi_wl, gi_wr, gl_wi, gl_wl, gl_wr, gr_wi, gr_wl, gr_wr, sh_wi, sh_wl, sh_wr, gl_cp, gr_cp, sh_cp, gl_rw, gr_rw, sh_rw, gi_rl, gr_rl, sh_rl, Option.toList_some, Option.toList_none, List.nil_append, List.cons_append, List.append_nil, Option.some.injEq, Prod.mk.injEq, and_true, true_and, and_self, if_true, if_false, reduceCtorEq, Nat.reduceLeDiff, Nat.reduceLT, Nat.reduceAdd, Nat.reduceEqDiff, false_and, and_false, exists_const, exists_eq_left, exists_eq_left', exists_and_left, and_assoc, nltL, nltR, nleL, nleR, neqL, neqR, naL, naR, nmL, nmR, nI_ltI, nI_leI, nI_eq, nI_add, nI_mul, nI_clamp, n0l, n0r, nm1, nm1', nm1l, nm1r, nm1g, nsL, nI_m1, Nat.add_sub_cancel, vpn, vpL, nclL, le32, leLL, leLN, leNL, leNN, inA, nb0, nb1, gi_wi_n, gi_wi_e, gi_rw_n, gi_rw_e, aWi_rw]
  refine aLoop F (fun f lv h' => lv = [some (.ref 399), some (.int (nI s)), some (.int (bI (wetB (plG g) dp f s))), some (.int (nI f))] ∧ h' = h) ?_ ?_ 0 _ _ (Nat.zero_le _) ⟨rfl, rfl⟩
  · rintro f lv h' hf ⟨rfl, rfl⟩ hk
    have e1 : gi h' 415 (2 * f) = plG g f := sn.2 _ _ rfl (by omega)
    have e2 := np.2.1 f hf
    have hk' := hk _ _ ⟨rfl, rfl⟩
    have e3 : ¬ F ≤ f := by omega
    have e4 : 2 * f < 10 := by omega
    have e5 : 24 + f < 214 := by omega
    simp only [wetB] at hk'
    rw [s210_4]
    simp (disch := omega) only [s210_0, s210_1, s210_2, s210_3, s210_5, s210_6, s210_9, s210_12, s210_13, s210_16, s210_17, s210_20, s210_21, s210_22, s210_23, s210_24, s210_25, s210_26, s210_27, s210_30, s210_31, s210_34, s210_36, s210_37, s210_38, s210_39, s210_42, s210_43, s210_46, s210_47, s210_48, s210_51, s210_54, s210_55, true_or, or_true, or_false, false_or, or_self, Int32.reduceLT, Int32.reduceLE, Nat.add_zero, Nat.zero_add, Nat.not_lt_zero, not_false_eq_true, not_true_eq_false, and_assoc, kl_q, kl_i, kl_r, kl_n, kl_0, kl_l, cs_0, cs_i, cs_r, cs_n, cs_l, aRf_s, aRf_n, gi_wl, gi_wr, gl_wi, gl_wl, gl_wr, gr_wi, gr_wl, gr_wr, sh_wi, sh_wl, sh_wr, gl_cp, gr_cp, sh_cp, gl_rw, gr_rw, sh_rw, gi_rl, gr_rl, sh_rl, Option.toList_some, Option.toList_none, List.nil_append, List.cons_append, List.append_nil, Option.some.injEq, Prod.mk.injEq, and_true, true_and, and_self, if_true, if_false, reduceCtorEq, Nat.reduceLeDiff, Nat.reduceLT, Nat.reduceAdd, Nat.reduceEqDiff, false_and, and_false, exists_const, exists_eq_left, exists_eq_left', exists_and_left, and_assoc, nltL, nltR, nleL, nleR, neqL, neqR, naL, naR, nmL, nmR, nI_ltI, nI_leI, nI_eq, nI_add, nI_mul, nI_clamp, n0l, n0r, nm1, nm1', nm1l, nm1r, nm1g, nsL, nI_m1, Nat.add_sub_cancel, vpn, vpL, nclL, le32, leLL, leLN, leNL, leNN, inA, nb0, nb1, gi_wi_n, gi_wi_e, gi_rw_n, gi_rw_e, aWi_rw, z399 ok, z415 ok, z416 ok, r399_24 ok, r399_27 ok, c1, e1, e2, e3, e4, e5, Nat.add_zero]
    cases hw : wetB (plG g) dp f s
    · simp only [hw, Bool.false_or] at hk'
      by_cases hp : plG g f = nI s
      · by_cases hd : 0 < dp f
        · simpa [hp, hd, bI, Int32.not_le.mpr hd] using hk'
        · simpa [hp, hd, bI, Int32.not_lt.mp hd] using hk'
      · simpa [hp, bI] using hk'
    · simpa [hw, bI] using hk'
  · rintro lv h' ⟨rfl, rfl⟩
    rw [s210_4]
    simp (disch := omega) only [s210_0, s210_1, s210_2, s210_3, s210_5, s210_6, s210_9, s210_12, s210_13, s210_16, s210_17, s210_20, s210_21, s210_22, s210_23, s210_24, s210_25, s210_26, s210_27, s210_30, s210_31, s210_34, s210_36, s210_37, s210_38, s210_39, s210_42, s210_43, s210_46, s210_47, s210_48, s210_51, s210_54, s210_55, true_or, or_true, or_false, false_or, or_self, Int32.reduceLT, Int32.reduceLE, Nat.add_zero, Nat.zero_add, Nat.not_lt_zero, not_false_eq_true, not_true_eq_false, and_assoc, kl_q, kl_i, kl_r, kl_n, kl_0, kl_l, cs_0, cs_i, cs_r, cs_n, cs_l, aRf_s, aRf_n, gi_wl, gi_wr, gl_wi, gl_wl, gl_wr, gr_wi, gr_wl, gr_wr, sh_wi, sh_wl, sh_wr, gl_cp, gr_cp, sh_cp, gl_rw, gr_rw, sh_rw, gi_rl, gr_rl, sh_rl, Option.toList_some, Option.toList_none, List.nil_append, List.cons_append, List.append_nil, Option.some.injEq, Prod.mk.injEq, and_true, true_and, and_self, if_true, if_false, reduceCtorEq, Nat.reduceLeDiff, Nat.reduceLT, Nat.reduceAdd, Nat.reduceEqDiff, false_and, and_false, exists_const, exists_eq_left, exists_eq_left', exists_and_left, and_assoc, nltL, nltR, nleL, nleR, neqL, neqR, naL, naR, nmL, nmR, nI_ltI, nI_leI, nI_eq, nI_add, nI_mul, nI_clamp, n0l, n0r, nm1, nm1', nm1l, nm1r, nm1g, nsL, nI_m1, Nat.add_sub_cancel, vpn, vpL, nclL, le32, leLL, leLN, leNL, leNN, inA, nb0, nb1, gi_wi_n, gi_wi_e, gi_rw_n, gi_rw_e, aWi_rw, z399 ok, z415 ok, z416 ok, r399_24 ok, r399_27 ok, c1, Nat.le_refl]
    exact ⟨nbI _, hq⟩

theorem m_heard {d : Nat} {g h : aM} {Q : Option Value → aM → Prop} {M F L W N : Nat} {st vo dp : Nat → Int32} {P : Nat} {mud : Int32} {m s : Nat} (it : ITold g M F L W) (il : ILaw g N) (pb : PB M st vo P mud) (sn : SameN g h) (np : NowP h M F st vo dp P mud) (hm : m < M) (hs : s ≤ 30)
    (hq : ∀ h', SmL h h' → Q (some (.int (hdG g F st vo dp P mud m s))) h') : AW (d + 5) 211 0 [some (.ref 399), some (.int (nI m)), some (.int (nI s)), none, none] [] h Q := by
  have ok := sn.1
  have hm6 : m < 6 := by have := it.1; omega
  obtain ⟨p1, p2⟩ := np.1 m hm
  obtain ⟨-, -, p3, p4⟩ := id np
  have hr : sm (rkG g m) := (it.2.2.2.2.2.2.2.2.2.2.2.2.2.1 m hm).2
  have e1 : gi h 414 (4 * m + 3) = rkG g m := sn.2 _ _ rfl (by omega)
  have e2 : 4 * m + 3 < 24 := by omega
  have e3 : m < 214 := by omega
  have e4 : 6 + m < 214 := by omega
  have e5 : gi h 399 29 = gi g 399 29 := sn.2 _ _ rfl (by omega)
  simp (disch := omega) only [s211_0, s211_1, s211_2, s211_5, s211_8, s211_9, s211_10, s211_11, s211_14, s211_15, s211_16, s211_17, s211_18, s211_19, s211_20, s211_23, s211_24, s211_25, s211_28, s211_30, s211_31, s211_32, s211_33, s211_34, s211_35, s211_36, s211_39, s211_41, s211_42, s211_43, s211_44, s211_45, s211_46, s211_47, s211_48, s211_51, s211_52, s211_53, s211_54, s211_56, s211_57, s211_60, s211_61, s211_64, s211_65, s211_68, s211_69, s211_70, s211_73, s211_75, s211_76, s211_77, s211_78, s211_79, s211_80, s211_83, s211_84, s211_85, s211_86, s211_87, s211_90, s211_91, s211_92, s211_95, s211_97, s211_98, s211_99, s211_100, s211_103, s211_104, s211_105, s211_108, s211_110, s211_111, s211_112, s211_113, s211_116, s211_117, s211_118, s211_119, s211_120, s211_123, s211_124, s211_125, s211_128, s211_129, s211_130, s211_131, s211_132, s211_133, s211_136, s211_139, s211_141, s211_142, s211_144, s211_146, s211_149, s211_152, true_or, or_true, or_false, false_or, or_self, Int32.reduceLT, Int32.reduceLE, Nat.add_zero, Nat.zero_add, Nat.not_lt_zero, not_false_eq_true, not_true_eq_false, and_assoc, kl_q, kl_i, kl_r, kl_n, kl_0, kl_l, cs_0, cs_i, cs_r, cs_n, cs_l, aRf_s, aRf_n, gi_wl, gi_wr, gl_wi, gl_wl, gl_wr, gr_wi, gr_wl, gr_wr, sh_wi, sh_wl, sh_wr, gl_cp, gr_cp, sh_cp, gl_rw, gr_rw, sh_rw, gi_rl, gr_rl, sh_rl, Option.toList_some, Option.toList_none, List.nil_append, List.cons_append, List.append_nil, Option.some.injEq, Prod.mk.injEq, and_true, true_and, and_self, if_true, if_false, reduceCtorEq, Nat.reduceLeDiff, Nat.reduceLT, Nat.reduceAdd, Nat.reduceEqDiff, false_and, and_false, exists_const, exists_eq_left, exists_eq_left', exists_and_left, and_assoc, nltL, nltR, nleL, nleR, neqL, neqR, naL, naR, nmL, nmR, nI_ltI, nI_leI, nI_eq, nI_add, nI_mul, nI_clamp, n0l, n0r, nm1, nm1', nm1l, nm1r, nm1g, nsL, nI_m1, Nat.add_sub_cancel, vpn, vpL, nclL, le32, leLL, leLN, leNL, leNN, inA, nb0, nb1, gi_wi_n, gi_wi_e, gi_rw_n, gi_rw_e, aWi_rw, z399 ok]
  refine m_wet it sn np (by omega) ?_
  cases hw : wetB (plG g) dp F s
  · have hw' : ¬ wetB (plG g) dp F s = true := by rw [hw]; decide
    rcases il.cases with ⟨l1, l2⟩ | ⟨i, hi, hin, l1, l2, l3, l4, l5⟩
    · rw [l1] at e5
      simp (disch := omega) only [s211_0, s211_1, s211_2, s211_5, s211_8, s211_9, s211_10, s211_11, s211_14, s211_15, s211_16, s211_17, s211_18, s211_19, s211_20, s211_23, s211_24, s211_25, s211_28, s211_30, s211_31, s211_32, s211_33, s211_34, s211_35, s211_36, s211_39, s211_41, s211_42, s211_43, s211_44, s211_45, s211_46, s211_47, s211_48, s211_51, s211_52, s211_53, s211_54, s211_56, s211_57, s211_60, s211_61, s211_64, s211_65, s211_68, s211_69, s211_70, s211_73, s211_75, s211_76, s211_77, s211_78, s211_79, s211_80, s211_83, s211_84, s211_85, s211_86, s211_87, s211_90, s211_91, s211_92, s211_95, s211_97, s211_98, s211_99, s211_100, s211_103, s211_104, s211_105, s211_108, s211_110, s211_111, s211_112, s211_113, s211_116, s211_117, s211_118, s211_119, s211_120, s211_123, s211_124, s211_125, s211_128, s211_129, s211_130, s211_131, s211_132, s211_133, s211_136, s211_139, s211_141, s211_142, s211_144, s211_146, s211_149, s211_152, s206_0, s206_1, s206_4, s206_5, s206_6, s206_7, s206_8, s206_9, s206_10, true_or, or_true, or_false, false_or, or_self, Int32.reduceLT, Int32.reduceLE, Nat.add_zero, Nat.zero_add, Nat.not_lt_zero, not_false_eq_true, not_true_eq_false, and_assoc, kl_q, kl_i, kl_r, kl_n, kl_0, kl_l, cs_0, cs_i, cs_r, cs_n, cs_l, aRf_s, aRf_n, gi_wl, gi_wr, gl_wi, gl_wl, gl_wr, gr_wi, gr_wl, gr_wr, sh_wi, sh_wl, sh_wr, gl_cp, gr_cp, sh_cp, gl_rw, gr_rw, sh_rw, gi_rl, gr_rl, sh_rl, Option.toList_some, Option.toList_none, List.nil_append, List.cons_append, List.append_nil, Option.some.injEq, Prod.mk.injEq, and_true, true_and, and_self, if_true, if_false, reduceCtorEq, Nat.reduceLeDiff, Nat.reduceLT, Nat.reduceAdd, Nat.reduceEqDiff, false_and, and_false, exists_const, exists_eq_left, exists_eq_left', exists_and_left, and_assoc, nltL, nltR, nleL, nleR, neqL, neqR, naL, naR, nmL, nmR, nI_ltI, nI_leI, nI_eq, nI_add, nI_mul, nI_clamp, n0l, n0r, nm1, nm1', nm1l, nm1r, nm1g, nsL, nI_m1, Nat.add_sub_cancel, vpn, vpL, nclL, le32, leLL, leLN, leNL, leNN, inA, nb0, nb1, gi_wi_n, gi_wi_e, gi_rw_n, gi_rw_e, aWi_rw, z399 ok, z414 ok, z416 ok, r399_23 ok, r399_27 ok, bI, p1, p2, p3, p4, e1, e2, e3, e4, e5, sp_abs, sp_max, sp_min, Nat.zero_add, Bool.false_eq_true]
      have := hq h (SmL.refl ok)
      rwa [hdG, if_neg hw', wfG, if_pos l1] at this
    · rw [l1] at e5
      simp (disch := omega) only [s211_0, s211_1, s211_2, s211_5, s211_8, s211_9, s211_10, s211_11, s211_14, s211_15, s211_16, s211_17, s211_18, s211_19, s211_20, s211_23, s211_24, s211_25, s211_28, s211_30, s211_31, s211_32, s211_33, s211_34, s211_35, s211_36, s211_39, s211_41, s211_42, s211_43, s211_44, s211_45, s211_46, s211_47, s211_48, s211_51, s211_52, s211_53, s211_54, s211_56, s211_57, s211_60, s211_61, s211_64, s211_65, s211_68, s211_69, s211_70, s211_73, s211_75, s211_76, s211_77, s211_78, s211_79, s211_80, s211_83, s211_84, s211_85, s211_86, s211_87, s211_90, s211_91, s211_92, s211_95, s211_97, s211_98, s211_99, s211_100, s211_103, s211_104, s211_105, s211_108, s211_110, s211_111, s211_112, s211_113, s211_116, s211_117, s211_118, s211_119, s211_120, s211_123, s211_124, s211_125, s211_128, s211_129, s211_130, s211_131, s211_132, s211_133, s211_136, s211_139, s211_141, s211_142, s211_144, s211_146, s211_149, s211_152, s206_0, s206_1, s206_4, s206_5, s206_6, s206_7, s206_8, s206_9, s206_10, true_or, or_true, or_false, false_or, or_self, Int32.reduceLT, Int32.reduceLE, Nat.add_zero, Nat.zero_add, Nat.not_lt_zero, not_false_eq_true, not_true_eq_false, and_assoc, kl_q, kl_i, kl_r, kl_n, kl_0, kl_l, cs_0, cs_i, cs_r, cs_n, cs_l, aRf_s, aRf_n, gi_wl, gi_wr, gl_wi, gl_wl, gl_wr, gr_wi, gr_wl, gr_wr, sh_wi, sh_wl, sh_wr, gl_cp, gr_cp, sh_cp, gl_rw, gr_rw, sh_rw, gi_rl, gr_rl, sh_rl, Option.toList_some, Option.toList_none, List.nil_append, List.cons_append, List.append_nil, Option.some.injEq, Prod.mk.injEq, and_true, true_and, and_self, if_true, if_false, reduceCtorEq, Nat.reduceLeDiff, Nat.reduceLT, Nat.reduceAdd, Nat.reduceEqDiff, false_and, and_false, exists_const, exists_eq_left, exists_eq_left', exists_and_left, and_assoc, nltL, nltR, nleL, nleR, neqL, neqR, naL, naR, nmL, nmR, nI_ltI, nI_leI, nI_eq, nI_add, nI_mul, nI_clamp, n0l, n0r, nm1, nm1', nm1l, nm1r, nm1g, nsL, nI_m1, Nat.add_sub_cancel, vpn, vpL, nclL, le32, leLL, leLN, leNL, leNN, inA, nb0, nb1, gi_wi_n, gi_wi_e, gi_rw_n, gi_rw_e, aWi_rw, z399 ok, z408 ok, z414 ok, z416 ok, r399_15 ok, r399_23 ok, r399_27 ok, bI, p1, p2, p3, p4, e1, e2, e3, e4, e5, sp_abs, sp_max, sp_min, Nat.zero_add, Bool.false_eq_true]
      have s0 := (((((((SmL.refl ok).wi (a := 408) (k := 0) (x := vo m) rfl).wi (a := 408) (k := 1) (x := iabs (st m - nI s)) rfl).wi (a := 408) (k := 2) (x := nI P) rfl).wi (a := 408) (k := 3) (x := mud) rfl).wi (a := 408) (k := 4) (x := rkG g m) rfl).wi (a := 408) (k := 5) (x := nI s) rfl)
      refine mw_worth (lt := ltF (vo m) (iabs (st m - nI s)) (nI P) mud (rkG g m) (nI s)) s0.1 hi (l3.sameN (sn.sml s0) hi) ?_ (bd_hd pb hm hs hr) (fun h' s' => ?_)
      · intro l hl
        have : l = 0 ∨ l = 1 ∨ l = 2 ∨ l = 3 ∨ l = 4 ∨ l = 5 := by omega
        rcases this with rfl | rfl | rfl | rfl | rfl | rfl <;> simp [gi_wi, ltF]
      · have sn2 := sn.sml s0
        simp (disch := omega) only [s211_0, s211_1, s211_2, s211_5, s211_8, s211_9, s211_10, s211_11, s211_14, s211_15, s211_16, s211_17, s211_18, s211_19, s211_20, s211_23, s211_24, s211_25, s211_28, s211_30, s211_31, s211_32, s211_33, s211_34, s211_35, s211_36, s211_39, s211_41, s211_42, s211_43, s211_44, s211_45, s211_46, s211_47, s211_48, s211_51, s211_52, s211_53, s211_54, s211_56, s211_57, s211_60, s211_61, s211_64, s211_65, s211_68, s211_69, s211_70, s211_73, s211_75, s211_76, s211_77, s211_78, s211_79, s211_80, s211_83, s211_84, s211_85, s211_86, s211_87, s211_90, s211_91, s211_92, s211_95, s211_97, s211_98, s211_99, s211_100, s211_103, s211_104, s211_105, s211_108, s211_110, s211_111, s211_112, s211_113, s211_116, s211_117, s211_118, s211_119, s211_120, s211_123, s211_124, s211_125, s211_128, s211_129, s211_130, s211_131, s211_132, s211_133, s211_136, s211_139, s211_141, s211_142, s211_144, s211_146, s211_149, s211_152, true_or, or_true, or_false, false_or, or_self, Int32.reduceLT, Int32.reduceLE, Nat.add_zero, Nat.zero_add, Nat.not_lt_zero, not_false_eq_true, not_true_eq_false, and_assoc, kl_q, kl_i, kl_r, kl_n, kl_0, kl_l, cs_0, cs_i, cs_r, cs_n, cs_l, aRf_s, aRf_n, gi_wl, gi_wr, gl_wi, gl_wl, gl_wr, gr_wi, gr_wl, gr_wr, sh_wi, sh_wl, sh_wr, gl_cp, gr_cp, sh_cp, gl_rw, gr_rw, sh_rw, gi_rl, gr_rl, sh_rl, Option.toList_some, Option.toList_none, List.nil_append, List.cons_append, List.append_nil, Option.some.injEq, Prod.mk.injEq, and_true, true_and, and_self, if_true, if_false, reduceCtorEq, Nat.reduceLeDiff, Nat.reduceLT, Nat.reduceAdd, Nat.reduceEqDiff, false_and, and_false, exists_const, exists_eq_left, exists_eq_left', exists_and_left, and_assoc, nltL, nltR, nleL, nleR, neqL, neqR, naL, naR, nmL, nmR, nI_ltI, nI_leI, nI_eq, nI_add, nI_mul, nI_clamp, n0l, n0r, nm1, nm1', nm1l, nm1r, nm1g, nsL, nI_m1, Nat.add_sub_cancel, vpn, vpL, nclL, le32, leLL, leLN, leNL, leNN, inA, nb0, nb1, gi_wi_n, gi_wi_e, gi_rw_n, gi_rw_e, aWi_rw, sp_max, sp_min]
        have := hq h' (s0.trans s')
        rw [hdG, if_neg hw', wfG, if_neg l4, l5] at this
        rw [wfL_same (g := g) (fun k => sn2.2 _ _ rfl (by omega)) (fun k => sn2.2 _ _ rfl (by omega)) (fun k => sn2.2 _ _ rfl (by omega)) (fun k => sn2.2 _ _ rfl (by omega)) (fun k => sn2.2 _ _ rfl (by omega)) (fun k => sn2.2 _ _ rfl (by omega))]
        exact this
  · have hw' : wetB (plG g) dp F s = true := hw
    simp (disch := omega) only [s211_0, s211_1, s211_2, s211_5, s211_8, s211_9, s211_10, s211_11, s211_14, s211_15, s211_16, s211_17, s211_18, s211_19, s211_20, s211_23, s211_24, s211_25, s211_28, s211_30, s211_31, s211_32, s211_33, s211_34, s211_35, s211_36, s211_39, s211_41, s211_42, s211_43, s211_44, s211_45, s211_46, s211_47, s211_48, s211_51, s211_52, s211_53, s211_54, s211_56, s211_57, s211_60, s211_61, s211_64, s211_65, s211_68, s211_69, s211_70, s211_73, s211_75, s211_76, s211_77, s211_78, s211_79, s211_80, s211_83, s211_84, s211_85, s211_86, s211_87, s211_90, s211_91, s211_92, s211_95, s211_97, s211_98, s211_99, s211_100, s211_103, s211_104, s211_105, s211_108, s211_110, s211_111, s211_112, s211_113, s211_116, s211_117, s211_118, s211_119, s211_120, s211_123, s211_124, s211_125, s211_128, s211_129, s211_130, s211_131, s211_132, s211_133, s211_136, s211_139, s211_141, s211_142, s211_144, s211_146, s211_149, s211_152, true_or, or_true, or_false, false_or, or_self, Int32.reduceLT, Int32.reduceLE, Nat.add_zero, Nat.zero_add, Nat.not_lt_zero, not_false_eq_true, not_true_eq_false, and_assoc, kl_q, kl_i, kl_r, kl_n, kl_0, kl_l, cs_0, cs_i, cs_r, cs_n, cs_l, aRf_s, aRf_n, gi_wl, gi_wr, gl_wi, gl_wl, gl_wr, gr_wi, gr_wl, gr_wr, sh_wi, sh_wl, sh_wr, gl_cp, gr_cp, sh_cp, gl_rw, gr_rw, sh_rw, gi_rl, gr_rl, sh_rl, Option.toList_some, Option.toList_none, List.nil_append, List.cons_append, List.append_nil, Option.some.injEq, Prod.mk.injEq, and_true, true_and, and_self, if_true, if_false, reduceCtorEq, Nat.reduceLeDiff, Nat.reduceLT, Nat.reduceAdd, Nat.reduceEqDiff, false_and, and_false, exists_const, exists_eq_left, exists_eq_left', exists_and_left, and_assoc, nltL, nltR, nleL, nleR, neqL, neqR, naL, naR, nmL, nmR, nI_ltI, nI_leI, nI_eq, nI_add, nI_mul, nI_clamp, n0l, n0r, nm1, nm1', nm1l, nm1r, nm1g, nsL, nI_m1, Nat.add_sub_cancel, vpn, vpL, nclL, le32, leLL, leLN, leNL, leNN, inA, nb0, nb1, gi_wi_n, gi_wi_e, gi_rw_n, gi_rw_e, aWi_rw, bI]
    have := hq h (SmL.refl ok)
    rwa [hdG, if_pos hw'] at this
/-- the loudest of the first n: who, and how loud -/
def ls (f : Nat → Int32) : Nat → Option Nat × Int32
  | 0 => (none, 0)
  | n + 1 => if (ls f n).2 < f n then (some n, f n) else ls f n
def oI : Option Nat → Int32
  | none => -1
  | some n => nI n
theorem ls_lt {f : Nat → Int32} : ∀ {n k : Nat}, (ls f n).1 = some k → k < n
  | 0, k, h => by cases h
  | n + 1, k, h => by
    simp only [ls] at h
    split at h
    · cases h
      omega
    · have := ls_lt h
      omega
theorem ls_val {f : Nat → Int32} : ∀ {n k : Nat}, (ls f n).1 = some k → (ls f n).2 = f k
  | 0, k, h => by cases h
  | n + 1, k, h => by
    simp only [ls] at h ⊢
    split at h
    · rename_i hh
      cases h
      rw [if_pos hh]
    · rename_i hh
      rw [if_neg hh]
      exact ls_val h
theorem ls_congr {f f' : Nat → Int32} : ∀ {n : Nat}, (∀ k, k < n → f k = f' k) → ls f n = ls f' n
  | 0, _ => rfl
  | n + 1, h => by
    simp only [ls]
    rw [ls_congr (fun k hk => h k (by omega)), h n (by omega)]
theorem m_ldst {d : Nat} {g h : aM} {Q : Option Value → aM → Prop} {M F L W N : Nat} {st vo dp : Nat → Int32} {P : Nat} {mud : Int32} {s : Nat} (it : ITold g M F L W) (il : ILaw g N) (pb : PB M st vo P mud) (sn : SameN g h) (np : NowP h M F st vo dp P mud) (hs : s ≤ 30)
    (hq : ∀ h', SmL h h' → Q (some (.int (oI (ls (fun m => hdG g F st vo dp P mud m s) M).1))) h') : AW (d + 6) 212 0 [some (.ref 399), some (.int (nI s)), none, none, none, none] [] h Q := by
  have ok0 := sn.1
  have hM : M ≤ 6 := it.1
  simp (disch := omega) only [s212_0, s212_1, s212_2, s212_3, s212_4, s212_5, s212_9, s212_10, s212_13, s212_16, s212_17, s212_19, s212_20, s212_23, s212_25, s212_27, s212_28, s212_31, s212_33, s212_36, s212_37, s212_38, s212_39, s212_41, s212_44, s212_45, s212_48, s212_51, s212_52, true_or, or_true, or_false, false_or, or_self, Int32.reduceLT, Int32.reduceLE, Nat.add_zero, Nat.zero_add, Nat.not_lt_zero, not_false_eq_true, not_true_eq_false, and_assoc, kl_q, kl_i, kl_r, kl_n, kl_0, kl_l, cs_0, cs_i, cs_r, cs_n, cs_l, aRf_s, aRf_n, gi_wl, gi_wr, gl_wi, gl_wl, gl_wr, gr_wi, gr_wl, gr_wr, sh_wi, sh_wl, sh_wr, gl_cp, gr_cp, sh_cp, gl_rw, gr_rw, sh_rw, gi_rl, gr_rl, sh_rl, Option.toList_some, Option.toList_none, List.nil_append, List.cons_append, List.append_nil, Option.some.injEq, Prod.mk.injEq, and_true, true_and, and_self, if_true, if_false, reduceCtorEq, Nat.reduceLeDiff, Nat.reduceLT, Nat.reduceAdd, Nat.reduceEqDiff, false_and, and_false, exists_const, exists_eq_left, exists_eq_left', exists_and_left, and_assoc, nltL, nltR, nleL, nleR, neqL, neqR, naL, naR, nmL, nmR, nI_ltI, nI_leI, nI_eq, nI_add, nI_mul, nI_clamp, n0l, n0r, nm1, nm1', nm1l, nm1r, nm1g, nsL, nI_m1, Nat.add_sub_cancel, vpn, vpL, nclL, le32, leLL, leLN, leNL, leNN, inA, nb0, nb1, gi_wi_n, gi_wi_e, gi_rw_n, gi_rw_e, aWi_rw]
  refine aLoop M (fun m lv h' => ∃ w, lv = [some (.ref 399), some (.int (nI s)), some (.int (oI (ls (fun m => hdG g F st vo dp P mud m s) m).1)), some (.int (ls (fun m => hdG g F st vo dp P mud m s) m).2), some (.int (nI m)), w] ∧ SmL h h') ?_ ?_ 0 _ _ (Nat.zero_le _) ⟨none, rfl, SmL.refl ok0⟩
  · rintro m lv h' hm ⟨w, rfl, s'⟩ hk
    have sn' := sn.sml s'
    have ok := sn'.1
    have c1 : gi h' 399 25 = nI M := by rw [sn'.2 _ _ rfl (by omega), it.2.2.2.2.2.2.1]
    have e3 : ¬ M ≤ m := by omega
    rw [s212_7]
    simp (disch := omega) only [s212_0, s212_1, s212_2, s212_3, s212_4, s212_5, s212_9, s212_10, s212_13, s212_16, s212_17, s212_19, s212_20, s212_23, s212_25, s212_27, s212_28, s212_31, s212_33, s212_36, s212_37, s212_38, s212_39, s212_41, s212_44, s212_45, s212_48, s212_51, s212_52, true_or, or_true, or_false, false_or, or_self, Int32.reduceLT, Int32.reduceLE, Nat.add_zero, Nat.zero_add, Nat.not_lt_zero, not_false_eq_true, not_true_eq_false, and_assoc, kl_q, kl_i, kl_r, kl_n, kl_0, kl_l, cs_0, cs_i, cs_r, cs_n, cs_l, aRf_s, aRf_n, gi_wl, gi_wr, gl_wi, gl_wl, gl_wr, gr_wi, gr_wl, gr_wr, sh_wi, sh_wl, sh_wr, gl_cp, gr_cp, sh_cp, gl_rw, gr_rw, sh_rw, gi_rl, gr_rl, sh_rl, Option.toList_some, Option.toList_none, List.nil_append, List.cons_append, List.append_nil, Option.some.injEq, Prod.mk.injEq, and_true, true_and, and_self, if_true, if_false, reduceCtorEq, Nat.reduceLeDiff, Nat.reduceLT, Nat.reduceAdd, Nat.reduceEqDiff, false_and, and_false, exists_const, exists_eq_left, exists_eq_left', exists_and_left, and_assoc, nltL, nltR, nleL, nleR, neqL, neqR, naL, naR, nmL, nmR, nI_ltI, nI_leI, nI_eq, nI_add, nI_mul, nI_clamp, n0l, n0r, nm1, nm1', nm1l, nm1r, nm1g, nsL, nI_m1, Nat.add_sub_cancel, vpn, vpL, nclL, le32, leLL, leLN, leNL, leNN, inA, nb0, nb1, gi_wi_n, gi_wi_e, gi_rw_n, gi_rw_e, aWi_rw, z399 ok, c1, e3]
    refine m_heard it il pb sn' (np.sml s') hm hs (fun h2 s2 => ?_)
    have hk' := fun w => hk _ _ ⟨w, rfl, s'.trans s2⟩
    simp only [ls] at hk'
    simp (disch := omega) only [s212_0, s212_1, s212_2, s212_3, s212_4, s212_5, s212_9, s212_10, s212_13, s212_16, s212_17, s212_19, s212_20, s212_23, s212_25, s212_27, s212_28, s212_31, s212_33, s212_36, s212_37, s212_38, s212_39, s212_41, s212_44, s212_45, s212_48, s212_51, s212_52, true_or, or_true, or_false, false_or, or_self, Int32.reduceLT, Int32.reduceLE, Nat.add_zero, Nat.zero_add, Nat.not_lt_zero, not_false_eq_true, not_true_eq_false, and_assoc, kl_q, kl_i, kl_r, kl_n, kl_0, kl_l, cs_0, cs_i, cs_r, cs_n, cs_l, aRf_s, aRf_n, gi_wl, gi_wr, gl_wi, gl_wl, gl_wr, gr_wi, gr_wl, gr_wr, sh_wi, sh_wl, sh_wr, gl_cp, gr_cp, sh_cp, gl_rw, gr_rw, sh_rw, gi_rl, gr_rl, sh_rl, Option.toList_some, Option.toList_none, List.nil_append, List.cons_append, List.append_nil, Option.some.injEq, Prod.mk.injEq, and_true, true_and, and_self, if_true, if_false, reduceCtorEq, Nat.reduceLeDiff, Nat.reduceLT, Nat.reduceAdd, Nat.reduceEqDiff, false_and, and_false, exists_const, exists_eq_left, exists_eq_left', exists_and_left, and_assoc, nltL, nltR, nleL, nleR, neqL, neqR, naL, naR, nmL, nmR, nI_ltI, nI_leI, nI_eq, nI_add, nI_mul, nI_clamp, n0l, n0r, nm1, nm1', nm1l, nm1r, nm1g, nsL, nI_m1, Nat.add_sub_cancel, vpn, vpL, nclL, le32, leLL, leLN, leNL, leNN, inA, nb0, nb1, gi_wi_n, gi_wi_e, gi_rw_n, gi_rw_e, aWi_rw, sp_max]
    generalize ls (fun m => hdG g F st vo dp P mud m s) m = r at *
    generalize hdG g F st vo dp P mud m s = x at *
    by_cases hh : r.2 < x
    · rw [if_neg (Int32.not_le.mpr hh), imax, if_pos hh]
      simp only [hh, if_true, oI] at hk'
      exact hk' _
    · rw [if_pos (Int32.not_lt.mp hh), imax, if_neg hh]
      simp only [hh, if_false] at hk'
      exact hk' _
  · rintro lv h' ⟨w, rfl, s'⟩
    have sn' := sn.sml s'
    have ok := sn'.1
    have c1 : gi h' 399 25 = nI M := by rw [sn'.2 _ _ rfl (by omega), it.2.2.2.2.2.2.1]
    rw [s212_7]
    simp (disch := omega) only [s212_0, s212_1, s212_2, s212_3, s212_4, s212_5, s212_9, s212_10, s212_13, s212_16, s212_17, s212_19, s212_20, s212_23, s212_25, s212_27, s212_28, s212_31, s212_33, s212_36, s212_37, s212_38, s212_39, s212_41, s212_44, s212_45, s212_48, s212_51, s212_52, true_or, or_true, or_false, false_or, or_self, Int32.reduceLT, Int32.reduceLE, Nat.add_zero, Nat.zero_add, Nat.not_lt_zero, not_false_eq_true, not_true_eq_false, and_assoc, kl_q, kl_i, kl_r, kl_n, kl_0, kl_l, cs_0, cs_i, cs_r, cs_n, cs_l, aRf_s, aRf_n, gi_wl, gi_wr, gl_wi, gl_wl, gl_wr, gr_wi, gr_wl, gr_wr, sh_wi, sh_wl, sh_wr, gl_cp, gr_cp, sh_cp, gl_rw, gr_rw, sh_rw, gi_rl, gr_rl, sh_rl, Option.toList_some, Option.toList_none, List.nil_append, List.cons_append, List.append_nil, Option.some.injEq, Prod.mk.injEq, and_true, true_and, and_self, if_true, if_false, reduceCtorEq, Nat.reduceLeDiff, Nat.reduceLT, Nat.reduceAdd, Nat.reduceEqDiff, false_and, and_false, exists_const, exists_eq_left, exists_eq_left', exists_and_left, and_assoc, nltL, nltR, nleL, nleR, neqL, neqR, naL, naR, nmL, nmR, nI_ltI, nI_leI, nI_eq, nI_add, nI_mul, nI_clamp, n0l, n0r, nm1, nm1', nm1l, nm1r, nm1g, nsL, nI_m1, Nat.add_sub_cancel, vpn, vpL, nclL, le32, leLL, leLN, leNL, leNN, inA, nb0, nb1, gi_wi_n, gi_wi_e, gi_rw_n, gi_rw_e, aWi_rw, z399 ok, c1, Nat.le_refl]
    exact hq _ s'
theorem c_ldst {d : Nat} {h : aM} {Q : Option Value → aM → Prop} {M s : Nat} {f : Nat → Int32} (ok : OK h) (hM : M ≤ 6) (hs : s ≤ 30) (c1 : gi h 342 11 = nI M) (hf : ∀ m, m < M → gi h (351 + m) s = f m) (hq : Q (some (.int (oI (ls f M).1))) h) :
    AW d 13 0 [some (.ref 342), some (.int (nI s)), none, none, none] [] h Q := by
  simp (disch := omega) only [s13_0, s13_1, s13_2, s13_3, s13_4, s13_5, s13_9, s13_10, s13_13, s13_16, s13_17, s13_20, s13_22, s13_23, s13_24, s13_25, s13_26, s13_29, s13_30, s13_33, s13_35, s13_36, s13_37, s13_38, s13_39, s13_41, s13_42, s13_45, s13_48, s13_49, true_or, or_true, or_false, false_or, or_self, Int32.reduceLT, Int32.reduceLE, Nat.add_zero, Nat.zero_add, Nat.not_lt_zero, not_false_eq_true, not_true_eq_false, and_assoc, kl_q, kl_i, kl_r, kl_n, kl_0, kl_l, cs_0, cs_i, cs_r, cs_n, cs_l, aRf_s, aRf_n, gi_wl, gi_wr, gl_wi, gl_wl, gl_wr, gr_wi, gr_wl, gr_wr, sh_wi, sh_wl, sh_wr, gl_cp, gr_cp, sh_cp, gl_rw, gr_rw, sh_rw, gi_rl, gr_rl, sh_rl, Option.toList_some, Option.toList_none, List.nil_append, List.cons_append, List.append_nil, Option.some.injEq, Prod.mk.injEq, and_true, true_and, and_self, if_true, if_false, reduceCtorEq, Nat.reduceLeDiff, Nat.reduceLT, Nat.reduceAdd, Nat.reduceEqDiff, false_and, and_false, exists_const, exists_eq_left, exists_eq_left', exists_and_left, and_assoc, nltL, nltR, nleL, nleR, neqL, neqR, naL, naR, nmL, nmR, nI_ltI, nI_leI, nI_eq, nI_add, nI_mul, nI_clamp, n0l, n0r, nm1, nm1', nm1l, nm1r, nm1g, nsL, nI_m1, Nat.add_sub_cancel, vpn, vpL, nclL, le32, leLL, leLN, leNL, leNN, inA, nb0, nb1, gi_wi_n, gi_wi_e, gi_rw_n, gi_rw_e, aWi_rw]
  refine aLoop M (fun m lv h' => lv = [some (.ref 342), some (.int (nI s)), some (.int (oI (ls f m).1)), some (.int (ls f m).2), some (.int (nI m))] ∧ h' = h) ?_ ?_ 0 _ _ (Nat.zero_le _) ⟨rfl, rfl⟩
  · rintro m lv h' hm ⟨rfl, rfl⟩ hk
    have e3 : ¬ M ≤ m := by omega
    have e4 := hf m hm
    have e5 : m < 6 := by omega
    have e6 : s < 31 := by omega
    rw [s13_7]
    have hk' := hk _ _ ⟨rfl, rfl⟩
    simp only [ls] at hk'
    simp (disch := omega) only [s13_0, s13_1, s13_2, s13_3, s13_4, s13_5, s13_9, s13_10, s13_13, s13_16, s13_17, s13_20, s13_22, s13_23, s13_24, s13_25, s13_26, s13_29, s13_30, s13_33, s13_35, s13_36, s13_37, s13_38, s13_39, s13_41, s13_42, s13_45, s13_48, s13_49, true_or, or_true, or_false, false_or, or_self, Int32.reduceLT, Int32.reduceLE, Nat.add_zero, Nat.zero_add, Nat.not_lt_zero, not_false_eq_true, not_true_eq_false, and_assoc, kl_q, kl_i, kl_r, kl_n, kl_0, kl_l, cs_0, cs_i, cs_r, cs_n, cs_l, aRf_s, aRf_n, gi_wl, gi_wr, gl_wi, gl_wl, gl_wr, gr_wi, gr_wl, gr_wr, sh_wi, sh_wl, sh_wr, gl_cp, gr_cp, sh_cp, gl_rw, gr_rw, sh_rw, gi_rl, gr_rl, sh_rl, Option.toList_some, Option.toList_none, List.nil_append, List.cons_append, List.append_nil, Option.some.injEq, Prod.mk.injEq, and_true, true_and, and_self, if_true, if_false, reduceCtorEq, Nat.reduceLeDiff, Nat.reduceLT, Nat.reduceAdd, Nat.reduceEqDiff, false_and, and_false, exists_const, exists_eq_left, exists_eq_left', exists_and_left, and_assoc, nltL, nltR, nleL, nleR, neqL, neqR, naL, naR, nmL, nmR, nI_ltI, nI_leI, nI_eq, nI_add, nI_mul, nI_clamp, n0l, n0r, nm1, nm1', nm1l, nm1r, nm1g, nsL, nI_m1, Nat.add_sub_cancel, vpn, vpL, nclL, le32, leLL, leLN, leNL, leNN, inA, nb0, nb1, gi_wi_n, gi_wi_e, gi_rw_n, gi_rw_e, aWi_rw, z342 ok, z350 ok, r342_9 ok, g350 ok e5, q351 ok e5, c1, e3, e4, e5, e6]
    generalize ls f m = r at *
    generalize f m = x at *
    by_cases hh : r.2 < x
    · rw [if_neg (Int32.not_le.mpr hh)]
      simp only [hh, if_true, oI] at hk'
      exact hk'
    · rw [if_pos (Int32.not_lt.mp hh)]
      simp only [hh, if_false] at hk'
      exact hk'
  · rintro lv h' ⟨rfl, rfl⟩
    rw [s13_7]
    simp (disch := omega) only [s13_0, s13_1, s13_2, s13_3, s13_4, s13_5, s13_9, s13_10, s13_13, s13_16, s13_17, s13_20, s13_22, s13_23, s13_24, s13_25, s13_26, s13_29, s13_30, s13_33, s13_35, s13_36, s13_37, s13_38, s13_39, s13_41, s13_42, s13_45, s13_48, s13_49, true_or, or_true, or_false, false_or, or_self, Int32.reduceLT, Int32.reduceLE, Nat.add_zero, Nat.zero_add, Nat.not_lt_zero, not_false_eq_true, not_true_eq_false, and_assoc, kl_q, kl_i, kl_r, kl_n, kl_0, kl_l, cs_0, cs_i, cs_r, cs_n, cs_l, aRf_s, aRf_n, gi_wl, gi_wr, gl_wi, gl_wl, gl_wr, gr_wi, gr_wl, gr_wr, sh_wi, sh_wl, sh_wr, gl_cp, gr_cp, sh_cp, gl_rw, gr_rw, sh_rw, gi_rl, gr_rl, sh_rl, Option.toList_some, Option.toList_none, List.nil_append, List.cons_append, List.append_nil, Option.some.injEq, Prod.mk.injEq, and_true, true_and, and_self, if_true, if_false, reduceCtorEq, Nat.reduceLeDiff, Nat.reduceLT, Nat.reduceAdd, Nat.reduceEqDiff, false_and, and_false, exists_const, exists_eq_left, exists_eq_left', exists_and_left, and_assoc, nltL, nltR, nleL, nleR, neqL, neqR, naL, naR, nmL, nmR, nI_ltI, nI_leI, nI_eq, nI_add, nI_mul, nI_clamp, n0l, n0r, nm1, nm1', nm1l, nm1r, nm1g, nsL, nI_m1, Nat.add_sub_cancel, vpn, vpL, nclL, le32, leLL, leLN, leNL, leNN, inA, nb0, nb1, gi_wi_n, gi_wi_e, gi_rw_n, gi_rw_e, aWi_rw, z342 ok, c1, Nat.le_refl]
    exact hq
