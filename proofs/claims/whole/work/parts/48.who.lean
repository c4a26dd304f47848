-- deps: 47.q12
/-! ===== questions, thirteenth part: who stood elsewhere ===== -/
def ISee (g : aM) (n : Nat) : Prop := n ≤ 10 ∧ gi g 358 3 = nI n ∧ gi g 399 44 = nI n ∧ ∀ k, k < n → gi g 359 k = gi g 422 k ∧ gi g 360 k = gi g 423 k ∧ gi g 361 k = gi g 424 k ∧ ∃ p, p < 20 ∧ gi g 422 k = nI p
def st0 (g : aM) : Nat → Int32 := fun k => gi g 414 (4 * k)
def vo0 (g : aM) : Nat → Int32 := fun k => gi g 414 (4 * k + 1)
def dp0 (g : aM) : Nat → Int32 := fun f => gi g 415 (2 * f + 1)
def mud0 (g : aM) : Int32 := gi g 413 3
def bgX (a k : Nat) : Bool := a == 416 && Nat.ble k 30
def p31 (k : Nat) : Bool := Nat.ble k 30
theorem bgX_t {k : Nat} (h : k ≤ 30) : bgX 416 k = true := by
  unfold bgX
  simp [Nat.ble_eq, h]
theorem Oth.bg {g h h' : aM} (o : Oth g h p31) (f : Fr bgX h h') : Oth g h' p31 := by
  refine ⟨⟨f.1, fun a k q r => ?_⟩, fun k q => ?_⟩
  · rw [f.2.2.2 a k (by unfold bgX; simp [r]), o.1.2 a k q r]
  · rw [f.2.2.2 416 k (by unfold bgX; rw [show Nat.ble k 30 = false from q]; rfl), o.2 k q]
section Q21
variable {d : Nat} {g h : aM} {Q : Option Value → aM → Prop} {M F L W N D P n : Nat}
theorem m_begin (it : ITold g M F L W) (sn : SameN g h) (hP : gi g 413 1 = nI P) (hq : ∀ h', Fr bgX h h' → NowP h' M F (st0 g) (vo0 g) (dp0 g) P (mud0 g) → Q none h') : AW (d + 1) 203 0 [some (.ref 399), none] [] h Q := by
  have hM : M ≤ 6 := it.1
  have hM' : M ≤ 10 := by omega
  have hF : F ≤ 5 := it.2.1
  have hF' : F ≤ 10 := by omega
  have hL : L ≤ 30 := it.2.2.1
  have hW : W ≤ 20 := it.2.2.2.1
  have ok0 := sn.1
  have rd : ∀ {h'}, Fr bgX h h' → ∀ a k, Scr a k = false → ¬ a = 416 → gi h' a k = gi g a k := fun f a k q r => by
    rw [f.2.2.2 a k (by unfold bgX; simp [r]), sn.2 a k q r]
  simp (disch := omega) only [s203_0, s203_1, s203_3, s203_4, s203_7, s203_10, s203_11, s203_14, s203_15, s203_16, s203_17, s203_18, s203_19, s203_20, s203_23, s203_24, s203_25, s203_28, s203_30, s203_31, s203_32, s203_33, s203_34, s203_35, s203_38, s203_39, s203_40, s203_43, s203_45, s203_46, s203_47, s203_48, s203_49, s203_50, s203_53, s203_54, s203_57, s203_60, s203_61, s203_63, s203_64, s203_67, s203_70, s203_71, s203_74, s203_76, s203_77, s203_78, s203_79, s203_82, s203_83, s203_84, s203_85, s203_86, s203_87, s203_88, s203_89, s203_92, s203_95, s203_96, s203_99, s203_101, s203_102, s203_105, s203_106, s203_107, s203_108, s203_109, s203_112, s203_114, s203_115, s203_118, s203_119, s203_120, s203_121, true_or, or_true, or_false, false_or, or_self, Int32.reduceLT, Int32.reduceLE, Nat.add_zero, Nat.zero_add, Nat.not_lt_zero, not_false_eq_true, not_true_eq_false, and_assoc, kl_q, kl_i, kl_r, kl_n, kl_0, kl_l, cs_0, cs_i, cs_r, cs_n, cs_l, aRf_s, aRf_n, gi_wl, gi_wr, gl_wi, gl_wl, gl_wr, gr_wi, gr_wl, gr_wr, sh_wi, sh_wl, sh_wr, gl_cp, gr_cp, sh_cp, gl_rw, gr_rw, sh_rw, gi_rl, gr_rl, sh_rl, Option.toList_some, Option.toList_none, List.nil_append, List.cons_append, List.append_nil, Option.some.injEq, Prod.mk.injEq, and_true, true_and, and_self, if_true, if_false, reduceCtorEq, Nat.reduceLeDiff, Nat.reduceLT, Nat.reduceAdd, Nat.reduceEqDiff, false_and, and_false, exists_const, exists_eq_left, exists_eq_left', exists_and_left, and_assoc, nltL, nltR, nleL, nleR, neqL, neqR, naL, naR, nmL, nmR, nI_ltI, nI_leI, nI_eq, nI_add, nI_mul, nI_clamp, n0l, n0r, nm1, nm1', nm1l, nm1r, nm1g, nsL, nI_m1, Nat.add_sub_cancel, vpn, vpL, nclL, le32, leLL, leLN, leNL, leNN, inA, nb0, nb1, gi_wi_n, gi_wi_e, gi_rw_n, gi_rw_e, aWi_rw, ifl, ifl_, ifle, ifle_, ifq, ifq_, ifnq, ifnq_, ifnl, ifnl_, ifnle, ifnle_]
  refine aLoop M (fun k lv h' => lv = [some (.ref 399), some (.int (nI k))] ∧ Fr bgX h h' ∧ ∀ j, j < k → gi h' 416 j = st0 g j ∧ gi h' 416 (6 + j) = vo0 g j) ?_ ?_ 0 _ _ (Nat.zero_le _) ⟨rfl, Fr.refl ok0, fun j hj => by omega⟩
  · rintro k lv h' hk ⟨rfl, f1, p1⟩ hk2
    have ok := f1.1
    have e1 : ¬ M ≤ k := by omega
    have r2 : gi h' 399 25 = nI M := by rw [rd f1 _ _ rfl (by decide), it.2.2.2.2.2.2.1]
    have a1 : 4 * k < 24 := by omega
    have a2 : 4 * k + 1 < 24 := by omega
    have a3 : 4 * k + 2 < 24 := by omega
    have b1 : k < 214 := by omega
    have b2 : 6 + k < 214 := by omega
    have b3 : 12 + k < 214 := by omega
    have c1 : gi h' 414 (4 * k) = st0 g k := rd f1 _ _ rfl (by decide)
    have c2 : gi h' 414 (4 * k + 1) = vo0 g k := rd f1 _ _ rfl (by decide)
    rw [s203_2]
    simp (disch := omega) only [s203_0, s203_1, s203_3, s203_4, s203_7, s203_10, s203_11, s203_14, s203_15, s203_16, s203_17, s203_18, s203_19, s203_20, s203_23, s203_24, s203_25, s203_28, s203_30, s203_31, s203_32, s203_33, s203_34, s203_35, s203_38, s203_39, s203_40, s203_43, s203_45, s203_46, s203_47, s203_48, s203_49, s203_50, s203_53, s203_54, s203_57, s203_60, s203_61, s203_63, s203_64, s203_67, s203_70, s203_71, s203_74, s203_76, s203_77, s203_78, s203_79, s203_82, s203_83, s203_84, s203_85, s203_86, s203_87, s203_88, s203_89, s203_92, s203_95, s203_96, s203_99, s203_101, s203_102, s203_105, s203_106, s203_107, s203_108, s203_109, s203_112, s203_114, s203_115, s203_118, s203_119, s203_120, s203_121, s206_0, s206_1, s206_4, s206_5, s206_6, s206_7, s206_8, s206_9, s206_10, true_or, or_true, or_false, false_or, or_self, Int32.reduceLT, Int32.reduceLE, Nat.add_zero, Nat.zero_add, Nat.not_lt_zero, not_false_eq_true, not_true_eq_false, and_assoc, kl_q, kl_i, kl_r, kl_n, kl_0, kl_l, cs_0, cs_i, cs_r, cs_n, cs_l, aRf_s, aRf_n, gi_wl, gi_wr, gl_wi, gl_wl, gl_wr, gr_wi, gr_wl, gr_wr, sh_wi, sh_wl, sh_wr, gl_cp, gr_cp, sh_cp, gl_rw, gr_rw, sh_rw, gi_rl, gr_rl, sh_rl, Option.toList_some, Option.toList_none, List.nil_append, List.cons_append, List.append_nil, Option.some.injEq, Prod.mk.injEq, and_true, true_and, and_self, if_true, if_false, reduceCtorEq, Nat.reduceLeDiff, Nat.reduceLT, Nat.reduceAdd, Nat.reduceEqDiff, false_and, and_false, exists_const, exists_eq_left, exists_eq_left', exists_and_left, and_assoc, nltL, nltR, nleL, nleR, neqL, neqR, naL, naR, nmL, nmR, nI_ltI, nI_leI, nI_eq, nI_add, nI_mul, nI_clamp, n0l, n0r, nm1, nm1', nm1l, nm1r, nm1g, nsL, nI_m1, Nat.add_sub_cancel, vpn, vpL, nclL, le32, leLL, leLN, leNL, leNN, inA, nb0, nb1, gi_wi_n, gi_wi_e, gi_rw_n, gi_rw_e, aWi_rw, ifl, ifl_, ifle, ifle_, ifq, ifq_, ifnq, ifnq_, ifnl, ifnl_, ifnle, ifnle_, z399 ok, z414 ok, z416 ok, r399_23 ok, r399_27 ok, r2, e1, a1, a2, a3, b1, b2, b3, c1, c2]
    refine hk2 _ _ ⟨rfl, ((f1.wi (bgX_t (by omega))).wi (bgX_t (by omega))).wi (bgX_t (by omega)), fun j hj => ?_⟩
    by_cases hjk : j = k
    · subst hjk
      constructor
      · rw [gi_wi_n (by omega), gi_wi_n (by omega), gi_wi_e]
      · rw [gi_wi_n (by omega), gi_wi_e]
    · rw [gi_wi_n (by omega), gi_wi_n (by omega), gi_wi_n (by omega), gi_wi_n (by omega), gi_wi_n (by omega), gi_wi_n (by omega)]
      exact p1 j (by omega)
  · rintro lv h' ⟨rfl, f1, p1⟩
    have ok := f1.1
    have r2 : gi h' 399 25 = nI M := by rw [rd f1 _ _ rfl (by decide), it.2.2.2.2.2.2.1]
    rw [s203_2]
    simp (disch := omega) only [s203_0, s203_1, s203_3, s203_4, s203_7, s203_10, s203_11, s203_14, s203_15, s203_16, s203_17, s203_18, s203_19, s203_20, s203_23, s203_24, s203_25, s203_28, s203_30, s203_31, s203_32, s203_33, s203_34, s203_35, s203_38, s203_39, s203_40, s203_43, s203_45, s203_46, s203_47, s203_48, s203_49, s203_50, s203_53, s203_54, s203_57, s203_60, s203_61, s203_63, s203_64, s203_67, s203_70, s203_71, s203_74, s203_76, s203_77, s203_78, s203_79, s203_82, s203_83, s203_84, s203_85, s203_86, s203_87, s203_88, s203_89, s203_92, s203_95, s203_96, s203_99, s203_101, s203_102, s203_105, s203_106, s203_107, s203_108, s203_109, s203_112, s203_114, s203_115, s203_118, s203_119, s203_120, s203_121, true_or, or_true, or_false, false_or, or_self, Int32.reduceLT, Int32.reduceLE, Nat.add_zero, Nat.zero_add, Nat.not_lt_zero, not_false_eq_true, not_true_eq_false, and_assoc, kl_q, kl_i, kl_r, kl_n, kl_0, kl_l, cs_0, cs_i, cs_r, cs_n, cs_l, aRf_s, aRf_n, gi_wl, gi_wr, gl_wi, gl_wl, gl_wr, gr_wi, gr_wl, gr_wr, sh_wi, sh_wl, sh_wr, gl_cp, gr_cp, sh_cp, gl_rw, gr_rw, sh_rw, gi_rl, gr_rl, sh_rl, Option.toList_some, Option.toList_none, List.nil_append, List.cons_append, List.append_nil, Option.some.injEq, Prod.mk.injEq, and_true, true_and, and_self, if_true, if_false, reduceCtorEq, Nat.reduceLeDiff, Nat.reduceLT, Nat.reduceAdd, Nat.reduceEqDiff, false_and, and_false, exists_const, exists_eq_left, exists_eq_left', exists_and_left, and_assoc, nltL, nltR, nleL, nleR, neqL, neqR, naL, naR, nmL, nmR, nI_ltI, nI_leI, nI_eq, nI_add, nI_mul, nI_clamp, n0l, n0r, nm1, nm1', nm1l, nm1r, nm1g, nsL, nI_m1, Nat.add_sub_cancel, vpn, vpL, nclL, le32, leLL, leLN, leNL, leNN, inA, nb0, nb1, gi_wi_n, gi_wi_e, gi_rw_n, gi_rw_e, aWi_rw, ifl, ifl_, ifle, ifle_, ifq, ifq_, ifnq, ifnq_, ifnl, ifnl_, ifnle, ifnle_, z399 ok, r2, Nat.le_refl]
    refine aLoop F (fun k lv h' => lv = [some (.ref 399), some (.int (nI k))] ∧ Fr bgX h h' ∧ (∀ j, j < M → gi h' 416 j = st0 g j ∧ gi h' 416 (6 + j) = vo0 g j) ∧ ∀ j, j < k → gi h' 416 (24 + j) = dp0 g j) ?_ ?_ 0 _ _ (Nat.zero_le _) ⟨rfl, f1, p1, fun j hj => by omega⟩
    · rintro k lv h' hk ⟨rfl, f2, p2, p3⟩ hk2
      have ok := f2.1
      have e1 : ¬ F ≤ k := by omega
      have r4 : gi h' 399 26 = nI F := by rw [rd f2 _ _ rfl (by decide), it.2.2.2.2.2.2.2.2.1]
      have a2 : 2 * k + 1 < 10 := by omega
      have b2 : 24 + k < 214 := by omega
      have c2 : gi h' 415 (2 * k + 1) = dp0 g k := rd f2 _ _ rfl (by decide)
      rw [s203_62]
      simp (disch := omega) only [s203_0, s203_1, s203_3, s203_4, s203_7, s203_10, s203_11, s203_14, s203_15, s203_16, s203_17, s203_18, s203_19, s203_20, s203_23, s203_24, s203_25, s203_28, s203_30, s203_31, s203_32, s203_33, s203_34, s203_35, s203_38, s203_39, s203_40, s203_43, s203_45, s203_46, s203_47, s203_48, s203_49, s203_50, s203_53, s203_54, s203_57, s203_60, s203_61, s203_63, s203_64, s203_67, s203_70, s203_71, s203_74, s203_76, s203_77, s203_78, s203_79, s203_82, s203_83, s203_84, s203_85, s203_86, s203_87, s203_88, s203_89, s203_92, s203_95, s203_96, s203_99, s203_101, s203_102, s203_105, s203_106, s203_107, s203_108, s203_109, s203_112, s203_114, s203_115, s203_118, s203_119, s203_120, s203_121, true_or, or_true, or_false, false_or, or_self, Int32.reduceLT, Int32.reduceLE, Nat.add_zero, Nat.zero_add, Nat.not_lt_zero, not_false_eq_true, not_true_eq_false, and_assoc, kl_q, kl_i, kl_r, kl_n, kl_0, kl_l, cs_0, cs_i, cs_r, cs_n, cs_l, aRf_s, aRf_n, gi_wl, gi_wr, gl_wi, gl_wl, gl_wr, gr_wi, gr_wl, gr_wr, sh_wi, sh_wl, sh_wr, gl_cp, gr_cp, sh_cp, gl_rw, gr_rw, sh_rw, gi_rl, gr_rl, sh_rl, Option.toList_some, Option.toList_none, List.nil_append, List.cons_append, List.append_nil, Option.some.injEq, Prod.mk.injEq, and_true, true_and, and_self, if_true, if_false, reduceCtorEq, Nat.reduceLeDiff, Nat.reduceLT, Nat.reduceAdd, Nat.reduceEqDiff, false_and, and_false, exists_const, exists_eq_left, exists_eq_left', exists_and_left, and_assoc, nltL, nltR, nleL, nleR, neqL, neqR, naL, naR, nmL, nmR, nI_ltI, nI_leI, nI_eq, nI_add, nI_mul, nI_clamp, n0l, n0r, nm1, nm1', nm1l, nm1r, nm1g, nsL, nI_m1, Nat.add_sub_cancel, vpn, vpL, nclL, le32, leLL, leLN, leNL, leNN, inA, nb0, nb1, gi_wi_n, gi_wi_e, gi_rw_n, gi_rw_e, aWi_rw, ifl, ifl_, ifle, ifle_, ifq, ifq_, ifnq, ifnq_, ifnl, ifnl_, ifnle, ifnle_, z399 ok, z415 ok, z416 ok, r399_24 ok, r399_27 ok, r4, e1, a2, b2, c2]
      refine hk2 _ _ ⟨rfl, f2.wi (bgX_t (by omega)), fun j hj => ?_, fun j hj => ?_⟩
      · rw [gi_wi_n (by omega), gi_wi_n (by omega)]
        exact p2 j hj
      · by_cases hjk : j = k
        · subst hjk
          rw [gi_wi_e]
        · rw [gi_wi_n (by omega)]
          exact p3 j (by omega)
    · rintro lv h' ⟨rfl, f2, p2, p3⟩
      have ok := f2.1
      have r4 : gi h' 399 26 = nI F := by rw [rd f2 _ _ rfl (by decide), it.2.2.2.2.2.2.2.2.1]
      have c1 : gi h' 413 1 = nI P := by rw [rd f2 _ _ rfl (by decide), hP]
      have c2 : gi h' 413 3 = mud0 g := rd f2 _ _ rfl (by decide)
      rw [s203_62]
      simp (disch := omega) only [s203_0, s203_1, s203_3, s203_4, s203_7, s203_10, s203_11, s203_14, s203_15, s203_16, s203_17, s203_18, s203_19, s203_20, s203_23, s203_24, s203_25, s203_28, s203_30, s203_31, s203_32, s203_33, s203_34, s203_35, s203_38, s203_39, s203_40, s203_43, s203_45, s203_46, s203_47, s203_48, s203_49, s203_50, s203_53, s203_54, s203_57, s203_60, s203_61, s203_63, s203_64, s203_67, s203_70, s203_71, s203_74, s203_76, s203_77, s203_78, s203_79, s203_82, s203_83, s203_84, s203_85, s203_86, s203_87, s203_88, s203_89, s203_92, s203_95, s203_96, s203_99, s203_101, s203_102, s203_105, s203_106, s203_107, s203_108, s203_109, s203_112, s203_114, s203_115, s203_118, s203_119, s203_120, s203_121, true_or, or_true, or_false, false_or, or_self, Int32.reduceLT, Int32.reduceLE, Nat.add_zero, Nat.zero_add, Nat.not_lt_zero, not_false_eq_true, not_true_eq_false, and_assoc, kl_q, kl_i, kl_r, kl_n, kl_0, kl_l, cs_0, cs_i, cs_r, cs_n, cs_l, aRf_s, aRf_n, gi_wl, gi_wr, gl_wi, gl_wl, gl_wr, gr_wi, gr_wl, gr_wr, sh_wi, sh_wl, sh_wr, gl_cp, gr_cp, sh_cp, gl_rw, gr_rw, sh_rw, gi_rl, gr_rl, sh_rl, Option.toList_some, Option.toList_none, List.nil_append, List.cons_append, List.append_nil, Option.some.injEq, Prod.mk.injEq, and_true, true_and, and_self, if_true, if_false, reduceCtorEq, Nat.reduceLeDiff, Nat.reduceLT, Nat.reduceAdd, Nat.reduceEqDiff, false_and, and_false, exists_const, exists_eq_left, exists_eq_left', exists_and_left, and_assoc, nltL, nltR, nleL, nleR, neqL, neqR, naL, naR, nmL, nmR, nI_ltI, nI_leI, nI_eq, nI_add, nI_mul, nI_clamp, n0l, n0r, nm1, nm1', nm1l, nm1r, nm1g, nsL, nI_m1, Nat.add_sub_cancel, vpn, vpL, nclL, le32, leLL, leLN, leNL, leNN, inA, nb0, nb1, gi_wi_n, gi_wi_e, gi_rw_n, gi_rw_e, aWi_rw, ifl, ifl_, ifle, ifle_, ifq, ifq_, ifnq, ifnq_, ifnl, ifnl_, ifnle, ifnle_, z399 ok, z413 ok, z416 ok, r399_22 ok, r399_27 ok, r4, Nat.le_refl, c1, c2]
      refine hq _ ((f2.wi (bgX_t (by omega))).wi (bgX_t (by omega))) ⟨fun j hj => ?_, fun j hj => ?_, ?_, ?_⟩
      · rw [gi_wi_n (by omega), gi_wi_n (by omega), gi_wi_n (by omega), gi_wi_n (by omega)]
        exact p2 j hj
      · rw [gi_wi_n (by omega), gi_wi_n (by omega)]
        exact p3 j hj
      · rw [gi_wi_n (by omega), gi_wi_e]
      · rw [gi_wi_e]
def whoB (M w : Nat) : Bool := decide (w < M) || w == 9
theorem m_isWho {w : Nat} (ok : OK h) (hM : M ≤ 6) (hw : w < 100) (r2 : gi h 399 25 = nI M) : AW (d + 2) 251 0 [some (.ref 399), some (.int (nI w))] [] h Q ↔ Q (some (.int (bI (whoB M w)))) h := by
  have e : isM M (nI w) = decide (w < M) := by
    unfold isM
    rw [decide_eq_decide]
    constructor
    · intro q
      exact (nI_ltI (by omega) (by omega)).mp q.2
    · intro q
      exact ⟨nI_pos' (by omega), (nI_ltI (by omega) (by omega)).mpr q⟩
  by_cases h9 : w = 9
  · subst h9
    simp (disch := omega) only [s251_0, s251_1, s251_3, s251_6, s251_7, s251_8, s251_11, s251_14, s251_15, s251_18, s251_19, true_or, or_true, or_false, false_or, or_self, Int32.reduceLT, Int32.reduceLE, Nat.add_zero, Nat.zero_add, Nat.not_lt_zero, not_false_eq_true, not_true_eq_false, and_assoc, kl_q, kl_i, kl_r, kl_n, kl_0, kl_l, cs_0, cs_i, cs_r, cs_n, cs_l, aRf_s, aRf_n, gi_wl, gi_wr, gl_wi, gl_wl, gl_wr, gr_wi, gr_wl, gr_wr, sh_wi, sh_wl, sh_wr, gl_cp, gr_cp, sh_cp, gl_rw, gr_rw, sh_rw, gi_rl, gr_rl, sh_rl, Option.toList_some, Option.toList_none, List.nil_append, List.cons_append, List.append_nil, Option.some.injEq, Prod.mk.injEq, and_true, true_and, and_self, if_true, if_false, reduceCtorEq, Nat.reduceLeDiff, Nat.reduceLT, Nat.reduceAdd, Nat.reduceEqDiff, false_and, and_false, exists_const, exists_eq_left, exists_eq_left', exists_and_left, and_assoc, nltL, nltR, nleL, nleR, neqL, neqR, naL, naR, nmL, nmR, nI_ltI, nI_leI, nI_eq, nI_add, nI_mul, nI_clamp, n0l, n0r, nm1, nm1', nm1l, nm1r, nm1g, nsL, nI_m1, Nat.add_sub_cancel, vpn, vpL, nclL, le32, leLL, leLN, leNL, leNN, inA, nb0, nb1, gi_wi_n, gi_wi_e, gi_rw_n, gi_rw_e, aWi_rw, ifl, ifl_, ifle, ifle_, ifq, ifq_, ifnq, ifnq_, ifnl, ifnl_, ifnle, ifnle_, z399 ok]
    unfold whoB
    simp [bI]
  · simp (disch := omega) only [s251_0, s251_1, s251_3, s251_6, s251_7, s251_8, s251_11, s251_14, s251_15, s251_18, s251_19, true_or, or_true, or_false, false_or, or_self, Int32.reduceLT, Int32.reduceLE, Nat.add_zero, Nat.zero_add, Nat.not_lt_zero, not_false_eq_true, not_true_eq_false, and_assoc, kl_q, kl_i, kl_r, kl_n, kl_0, kl_l, cs_0, cs_i, cs_r, cs_n, cs_l, aRf_s, aRf_n, gi_wl, gi_wr, gl_wi, gl_wl, gl_wr, gr_wi, gr_wl, gr_wr, sh_wi, sh_wl, sh_wr, gl_cp, gr_cp, sh_cp, gl_rw, gr_rw, sh_rw, gi_rl, gr_rl, sh_rl, Option.toList_some, Option.toList_none, List.nil_append, List.cons_append, List.append_nil, Option.some.injEq, Prod.mk.injEq, and_true, true_and, and_self, if_true, if_false, reduceCtorEq, Nat.reduceLeDiff, Nat.reduceLT, Nat.reduceAdd, Nat.reduceEqDiff, false_and, and_false, exists_const, exists_eq_left, exists_eq_left', exists_and_left, and_assoc, nltL, nltR, nleL, nleR, neqL, neqR, naL, naR, nmL, nmR, nI_ltI, nI_leI, nI_eq, nI_add, nI_mul, nI_clamp, n0l, n0r, nm1, nm1', nm1l, nm1r, nm1g, nsL, nI_m1, Nat.add_sub_cancel, vpn, vpL, nclL, le32, leLL, leLN, leNL, leNN, inA, nb0, nb1, gi_wi_n, gi_wi_e, gi_rw_n, gi_rw_e, aWi_rw, ifl, ifl_, ifle, ifle_, ifq, ifq_, ifnq, ifnq_, ifnl, ifnl_, ifnle, ifnle_, z399 ok, m_isMan ok (show M ≤ 10 by omega) r2, e, h9]
    unfold whoB
    by_cases hw : w < M
    · simp [hw, bI]
    · simp [hw, h9, bI]
/-- where he would stand -/
def sgW (g : aM) (L gg w : Nat) : Int32 := imin (nI L) (st0 g w + nI gg)
theorem sm_sg {gg w : Nat} (hL : L ≤ 30) (hg : gg ≤ 9) (h : sm (st0 g w)) : sm (sgW g L gg w) := by
  unfold sm at *
  unfold sgW imin
  have e1 := adi (st0 g w) (nI gg)
  have e2 := nI_toInt (show L < 2 ^ 31 by omega)
  rw [nI_toInt (by omega)] at e1
  split
  · next q =>
    rw [lti] at q
    omega
  · omega
def stW (g : aM) (L gg w : Nat) : Nat → Int32 := if w = 9 then st0 g else up (st0 g) w (sgW g L gg w)
/-- a telling -/
def twW (g : aM) (M F L W P gg w : Nat) : List Wd := rdA (hdG g F (stW g L gg w) (vo0 g) (dp0 g) P (mud0 g)) M L P (mud0 g) W
def tlW (g : aM) (M F L W P gg w i : Nat) : Int32 := wdI (twW g M F L W P gg w) (nI i)
theorem twW_len {gg w : Nat} (hW : W ≤ 20) : (twW g M F L W P gg w).length ≤ 20 := Nat.le_trans (rd_le _) hW
/-- what is known of the ride as told -/
def Cx0 (g : aM) (M F L W N P : Nat) : Prop := OK g ∧ ITold g M F L W ∧ IFirst g M F ∧ ILaw g N ∧ 1 ≤ P ∧ P ≤ 5 ∧ gi g 413 1 = nI P
theorem CtxB.c0 (cb : CtxB g M F L W N D) (h : 0 < M) : ∃ P, Cx0 g M F L W N P := by
  obtain ⟨c1, c2, c3, c4, c5, c6⟩ := cb
  obtain ⟨p, p1, p2, p3⟩ := c3.2.2.2.2.1 h
  exact ⟨p, c1, c2, c3, c4, p1, p2, p3⟩
theorem Cx0.pb0 (c : Cx0 g M F L W N P) : PB M (st0 g) (vo0 g) P (mud0 g) := by
  obtain ⟨c1, c2, c3, c4, c5, c6, c7⟩ := c
  exact ⟨fun k hk => ⟨(c3.1 k hk).2.2.1, (c3.1 k hk).2.2.2⟩, c5, c6, c3.2.2.2.2.2⟩
theorem Cx0.pb {gg w : Nat} (c : Cx0 g M F L W N P) (hg : gg ≤ 9) (hw : whoB M w = true) : PB M (stW g L gg w) (vo0 g) P (mud0 g) := by
  unfold stW
  split
  · exact c.pb0
  · next h9 =>
    refine c.pb0.st (sm_sg c.2.1.2.2.1 hg (c.2.2.1.1 w ?_).2.2.1)
    unfold whoB at hw
    simp [h9] at hw
    exact hw
theorem NowP.up {st vo dp : Nat → Int32} {mud : Int32} {w : Nat} {x : Int32} (np : NowP h M F st vo dp P mud) (hw : w < M) (hM : M ≤ 6) : NowP (aWi h 416 w x) M F (up st w x) vo dp P mud := by
  obtain ⟨n1, n2, n3, n4⟩ := np
  refine ⟨fun k hk => ⟨?_, ?_⟩, fun f hf => ?_, ?_, ?_⟩
  · by_cases e : k = w
    · subst e
      rw [up_e, gi_wi_e]
    · rw [up_n _ _ e, gi_wi_n (by omega)]
      exact (n1 k hk).1
  · rw [gi_wi_n (by omega)]
    exact (n1 k hk).2
  · rw [gi_wi_n (by omega)]
    exact n2 f hf
  · rw [gi_wi_n (by omega), n3]
  · rw [gi_wi_n (by omega), n4]
/-- the reference's rows -/
def RwW (g h : aM) (M F L W P gg n : Nat) : Prop := ∀ w, w < n → whoB M w = true → ∀ i, i < 20 → gi h 426 (20 * w + i) = tlW g M F L W P gg w i
theorem m_rowI {w : Nat} {ws : List Wd} {h1 : aM} {v1 : Option Value} (ok1 : OK h1) (hw : w < 10) (hl : ws.length ≤ 20) (mo : MoP h1 M ws) (hq : ∀ h' z, (OK h' ∧ (∀ a k, gl h' a k = gl h1 a k) ∧ (∀ a k, gr h' a k = gr h1 a k) ∧ (∀ a k, ¬ a = 426 → gi h' a k = gi h1 a k) ∧ (∀ k, ¬ (20 * w ≤ k ∧ k < 20 * w + 20) → gi h' 426 k = gi h1 426 k) ∧ ∀ i, i < 20 → gi h' 426 (20 * w + i) = wdI ws (nI i)) → AW d 252 124 [some (.ref 399), v1, some (.int (nI w)), z] [] h' Q) : AW d 252 83 [some (.ref 399), v1, some (.int (nI w)), some (.int 0)] [] h1 Q := by
  refine aLoop 20 (fun i lv h' => lv = [some (.ref 399), v1, some (.int (nI w)), some (.int (nI i))] ∧ OK h' ∧ (∀ a k, gl h' a k = gl h1 a k) ∧ (∀ a k, gr h' a k = gr h1 a k) ∧ (∀ a k, ¬ a = 426 → gi h' a k = gi h1 a k) ∧ (∀ k, ¬ (20 * w ≤ k ∧ k < 20 * w + 20) → gi h' 426 k = gi h1 426 k) ∧ ∀ j, j < i → gi h' 426 (20 * w + j) = wdI ws (nI j)) ?_ ?_ 0 _ _ (Nat.zero_le _) ⟨rfl, ok1, fun _ _ => rfl, fun _ _ => rfl, fun _ _ _ => rfl, fun _ _ => rfl, fun j hj => by omega⟩
  · rintro i lv h' hi ⟨rfl, ok, l1, l2, l3, l4, l5⟩ hk
    have e1 : ¬ 20 ≤ i := by omega
    have e2 : gi h' 399 34 = nI ws.length := by rw [l3 _ _ (by decide), mo.1]
    have a1 : 20 * w + i < 200 := by omega
    have a2 : i < 31 := by omega
    rw [s252_83]
    have fin : ∀ x, x = wdI ws (nI i) → AW d 252 83 [some (.ref 399), v1, some (.int (nI w)), some (.int (nI (i + 1)))] [] (aWi h' 426 (20 * w + i) x) Q := by
      intro x hx
      refine hk _ _ ⟨rfl, ok, l1, l2, fun a k q => ?_, fun k q => ?_, fun j hj => ?_⟩
      · rw [gi_wi_n (fun z => q z.1), l3 a k q]
      · rw [gi_wi_n (by omega), l4 k q]
      · by_cases hji : j = i
        · subst hji
          rw [gi_wi_e, hx]
        · rw [gi_wi_n (by omega)]
          exact l5 j (by omega)
    have ew := wdI_n (ws := ws) (i := i) (by omega) (by omega)
    by_cases hil : i < ws.length
    · have e3 : gi h' 418 i = nI (ws[i]).1 := by rw [l3 _ _ (by decide)]; exact (mo.2.2.2.1 i ws[i] (List.getElem?_eq_getElem hil)).1
      simp (disch := omega) only [s252_0, s252_1, s252_3, s252_5, s252_8, s252_9, s252_12, s252_13, s252_14, s252_17, s252_18, s252_19, s252_20, s252_23, s252_26, s252_27, s252_29, s252_31, s252_34, s252_35, s252_36, s252_39, s252_42, s252_43, s252_46, s252_47, s252_49, s252_52, s252_53, s252_56, s252_57, s252_58, s252_59, s252_60, s252_63, s252_64, s252_65, s252_66, s252_67, s252_68, s252_71, s252_72, s252_73, s252_76, s252_77, s252_78, s252_81, s252_82, s252_84, s252_86, s252_89, s252_90, s252_93, s252_95, s252_96, s252_97, s252_98, s252_99, s252_100, s252_101, s252_104, s252_107, s252_108, s252_111, s252_112, s252_113, s252_116, s252_117, s252_118, s252_121, s252_124, s252_127, s252_130, s252_131, s252_133, s252_135, s252_138, s252_139, s252_142, s252_143, s252_144, s252_147, s252_148, s252_149, s252_150, s252_153, s252_156, true_or, or_true, or_false, false_or, or_self, Int32.reduceLT, Int32.reduceLE, Nat.add_zero, Nat.zero_add, Nat.not_lt_zero, not_false_eq_true, not_true_eq_false, and_assoc, kl_q, kl_i, kl_r, kl_n, kl_0, kl_l, cs_0, cs_i, cs_r, cs_n, cs_l, aRf_s, aRf_n, gi_wl, gi_wr, gl_wi, gl_wl, gl_wr, gr_wi, gr_wl, gr_wr, sh_wi, sh_wl, sh_wr, gl_cp, gr_cp, sh_cp, gl_rw, gr_rw, sh_rw, gi_rl, gr_rl, sh_rl, Option.toList_some, Option.toList_none, List.nil_append, List.cons_append, List.append_nil, Option.some.injEq, Prod.mk.injEq, and_true, true_and, and_self, if_true, if_false, reduceCtorEq, Nat.reduceLeDiff, Nat.reduceLT, Nat.reduceAdd, Nat.reduceEqDiff, false_and, and_false, exists_const, exists_eq_left, exists_eq_left', exists_and_left, and_assoc, nltL, nltR, nleL, nleR, neqL, neqR, naL, naR, nmL, nmR, nI_ltI, nI_leI, nI_eq, nI_add, nI_mul, nI_clamp, n0l, n0r, nm1, nm1', nm1l, nm1r, nm1g, nsL, nI_m1, Nat.add_sub_cancel, vpn, vpL, nclL, le32, leLL, leLN, leNL, leNN, inA, nb0, nb1, gi_wi_n, gi_wi_e, gi_rw_n, gi_rw_e, aWi_rw, ifl, ifl_, ifle, ifle_, ifq, ifq_, ifnq, ifnq_, ifnl, ifnl_, ifnle, ifnle_, z399 ok, z418 ok, z426 ok, r399_46 ok, r399_31 ok, e1, e2, e3, a1, a2, hil]
      apply fin
      rw [ew, if_pos hil, List.getElem?_eq_getElem hil]
      rfl
    · simp (disch := omega) only [s252_0, s252_1, s252_3, s252_5, s252_8, s252_9, s252_12, s252_13, s252_14, s252_17, s252_18, s252_19, s252_20, s252_23, s252_26, s252_27, s252_29, s252_31, s252_34, s252_35, s252_36, s252_39, s252_42, s252_43, s252_46, s252_47, s252_49, s252_52, s252_53, s252_56, s252_57, s252_58, s252_59, s252_60, s252_63, s252_64, s252_65, s252_66, s252_67, s252_68, s252_71, s252_72, s252_73, s252_76, s252_77, s252_78, s252_81, s252_82, s252_84, s252_86, s252_89, s252_90, s252_93, s252_95, s252_96, s252_97, s252_98, s252_99, s252_100, s252_101, s252_104, s252_107, s252_108, s252_111, s252_112, s252_113, s252_116, s252_117, s252_118, s252_121, s252_124, s252_127, s252_130, s252_131, s252_133, s252_135, s252_138, s252_139, s252_142, s252_143, s252_144, s252_147, s252_148, s252_149, s252_150, s252_153, s252_156, true_or, or_true, or_false, false_or, or_self, Int32.reduceLT, Int32.reduceLE, Nat.add_zero, Nat.zero_add, Nat.not_lt_zero, not_false_eq_true, not_true_eq_false, and_assoc, kl_q, kl_i, kl_r, kl_n, kl_0, kl_l, cs_0, cs_i, cs_r, cs_n, cs_l, aRf_s, aRf_n, gi_wl, gi_wr, gl_wi, gl_wl, gl_wr, gr_wi, gr_wl, gr_wr, sh_wi, sh_wl, sh_wr, gl_cp, gr_cp, sh_cp, gl_rw, gr_rw, sh_rw, gi_rl, gr_rl, sh_rl, Option.toList_some, Option.toList_none, List.nil_append, List.cons_append, List.append_nil, Option.some.injEq, Prod.mk.injEq, and_true, true_and, and_self, if_true, if_false, reduceCtorEq, Nat.reduceLeDiff, Nat.reduceLT, Nat.reduceAdd, Nat.reduceEqDiff, false_and, and_false, exists_const, exists_eq_left, exists_eq_left', exists_and_left, and_assoc, nltL, nltR, nleL, nleR, neqL, neqR, naL, naR, nmL, nmR, nI_ltI, nI_leI, nI_eq, nI_add, nI_mul, nI_clamp, n0l, n0r, nm1, nm1', nm1l, nm1r, nm1g, nsL, nI_m1, Nat.add_sub_cancel, vpn, vpL, nclL, le32, leLL, leLN, leNL, leNN, inA, nb0, nb1, gi_wi_n, gi_wi_e, gi_rw_n, gi_rw_e, aWi_rw, ifl, ifl_, ifle, ifle_, ifq, ifq_, ifnq, ifnq_, ifnl, ifnl_, ifnle, ifnle_, z399 ok, z418 ok, z426 ok, r399_46 ok, r399_31 ok, e1, e2, a1, hil]
      apply fin
      rw [ew, if_neg hil]
  · rintro lv h' ⟨rfl, ok, l1, l2, l3, l4, l5⟩
    rw [s252_83]
    simp (disch := omega) only [s252_84, s252_86, s252_89, s252_90, s252_93, s252_95, s252_96, s252_97, s252_98, s252_99, s252_100, s252_101, s252_104, s252_107, s252_108, s252_111, s252_112, s252_113, s252_116, s252_117, s252_118, s252_121, true_or, or_true, or_false, false_or, or_self, Int32.reduceLT, Int32.reduceLE, Nat.add_zero, Nat.zero_add, Nat.not_lt_zero, not_false_eq_true, not_true_eq_false, and_assoc, kl_q, kl_i, kl_r, kl_n, kl_0, kl_l, cs_0, cs_i, cs_r, cs_n, cs_l, aRf_s, aRf_n, gi_wl, gi_wr, gl_wi, gl_wl, gl_wr, gr_wi, gr_wl, gr_wr, sh_wi, sh_wl, sh_wr, gl_cp, gr_cp, sh_cp, gl_rw, gr_rw, sh_rw, gi_rl, gr_rl, sh_rl, Option.toList_some, Option.toList_none, List.nil_append, List.cons_append, List.append_nil, Option.some.injEq, Prod.mk.injEq, and_true, true_and, and_self, if_true, if_false, reduceCtorEq, Nat.reduceLeDiff, Nat.reduceLT, Nat.reduceAdd, Nat.reduceEqDiff, false_and, and_false, exists_const, exists_eq_left, exists_eq_left', exists_and_left, and_assoc, nltL, nltR, nleL, nleR, neqL, neqR, naL, naR, nmL, nmR, nI_ltI, nI_leI, nI_eq, nI_add, nI_mul, nI_clamp, n0l, n0r, nm1, nm1', nm1l, nm1r, nm1g, nsL, nI_m1, Nat.add_sub_cancel, vpn, vpL, nclL, le32, leLL, leLN, leNL, leNN, inA, nb0, nb1, gi_wi_n, gi_wi_e, gi_rw_n, gi_rw_e, aWi_rw, ifl, ifl_, ifle, ifle_, ifq, ifq_, ifnq, ifnq_, ifnl, ifnl_, ifnle, ifnle_, Nat.le_refl]
    exact hq _ _ ⟨ok, l1, l2, l3, l4, l5⟩
end Q21
