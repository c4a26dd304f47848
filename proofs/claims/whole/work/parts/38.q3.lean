-- deps: 37.q2
/-! ===== questions, third part ===== -/
/-- the first of n that beats all ahead of it, by r -/
def fst (r : Nat → Nat → Bool) : Nat → Nat
  | 0 => 0
  | n + 1 => if r n (fst r n) = true then n else fst r n
theorem fst_lt {r : Nat → Nat → Bool} : ∀ {n : Nat}, 0 < n → fst r n < n ∨ (n = 1 ∧ fst r n = 0)
  | 0, h => by omega
  | 1, _ => by
    by_cases hr : r 0 0 = true <;> simp [fst, hr]
  | n + 2, _ => by
    rw [fst]
    split
    · exact Or.inl (by omega)
    · have := fst_lt (r := r) (n := n + 1) (by omega)
      omega
theorem fst_le {r : Nat → Nat → Bool} {n : Nat} (h : 0 < n) : fst r n < n := by
  have := fst_lt (r := r) h
  omega
def CtxB (g : aM) (M F L W N D : Nat) : Prop := OK g ∧ ITold g M F L W ∧ IFirst g M F ∧ ILaw g N ∧ StR g M F 79 416 0 ∧ StB g M 416 0 D
theorem CtxB.ctx {g : aM} {M F L W N D : Nat} (c : CtxB g M F L W N D) (h : 0 < M) : ∃ D P, Ctx g M F L W N D P := by
  obtain ⟨c1, c2, c3, c4, c5, c6⟩ := c
  obtain ⟨p, p1, p2, p3⟩ := c6.2.1 h
  exact ⟨D, p, c1, c2, c3, c4, c5, c6, h, p1, p2, p3⟩
/-- the class's state now, by the reference's -/
theorem rdNow {g h : aM} {M F : Nat} (sr : StR g M F 79 416 0) (s : Same g h) : (∀ k, k < M → gi h 80 k = stG g k ∧ gi h 81 k = voG g k ∧ gi h 82 k = gi g 416 (12 + k) ∧ gi h 83 k = gi g 416 (18 + k)) ∧ (∀ f, f < F → gi h 84 f = dpG g f) ∧ gi h 79 5 = gi g 416 29 ∧ gi h 79 6 = gi g 416 30 ∧ gi h 79 7 = gi g 416 31 ∧ gi h 79 8 = gi g 416 32 := by
  obtain ⟨s1, s2, s3, s4, s5, s6⟩ := sr
  refine ⟨fun k hk => ?_, fun f hf => ?_, ?_, ?_, ?_, ?_⟩
  · have := s1 k hk
    simp only [Nat.zero_add] at this
    refine ⟨?_, ?_, ?_, ?_⟩
    · rw [s.2 _ _ rfl, this.1]
      rfl
    · rw [s.2 _ _ rfl, this.2.1]
      rfl
    · rw [s.2 _ _ rfl, this.2.2.1]
    · rw [s.2 _ _ rfl, this.2.2.2]
  · have := s2 f hf
    rw [Nat.zero_add] at this
    rw [s.2 _ _ rfl, this]
    rfl
  · rw [s.2 _ _ rfl, s3]
  · rw [s.2 _ _ rfl, s4]
  · rw [s.2 _ _ rfl, s5]
  · rw [s.2 _ _ rfl, s6]
section Q5
variable {g : aM} {M F L W N D : Nat}
def nrR (g : aM) (x : Nat) (k b : Nat) : Bool := decide (iabs (stG g k - nI x) < iabs (stG g b - nI x))
theorem fst1 {r : Nat → Nat → Bool} : fst r 1 = 0 := by
  by_cases hr : r 0 0 = true <;> simp [fst, hr]
theorem q_nearest (cb : CtxB g M F L W N D) (b : Int32) : Qry g 154 269 [some (.ref 32), some (.int b), none, none] [some (.ref 399), some (.int b), none, none] := by
  have it := cb.2.1
  have hM : M ≤ 6 := it.1
  have hM' : M ≤ 10 := by omega
  have hF : F ≤ 5 := it.2.1
  have hF' : F ≤ 10 := by omega
  have hL : L ≤ 30 := it.2.2.1
  have hW : W ≤ 20 := it.2.2.2.1
  cases hb : isS M L b
  · refine ⟨-1, fun d h s => ?_⟩
    obtain ⟨r1, r2, r3, r4, r5, r6, r7, r8⟩ := rd58 it s
    have ok := s.1
    constructor
    · simp (disch := omega) only [s154_0, s154_1, s154_2, s154_5, s154_8, s154_9, s154_10, s154_11, s154_12, s154_13, s154_15, s154_16, s154_19, s154_22, s154_25, s154_26, s154_29, s154_32, s154_33, s154_34, s154_35, s154_36, s154_39, s154_40, s154_43, s154_46, s154_47, s154_48, s154_49, s154_50, s154_53, s154_56, s154_57, s154_58, s154_61, s154_64, s154_65, true_or, or_true, or_false, false_or, or_self, Int32.reduceLT, Int32.reduceLE, Nat.add_zero, Nat.zero_add, Nat.not_lt_zero, not_false_eq_true, not_true_eq_false, and_assoc, kl_q, kl_i, kl_r, kl_n, kl_0, kl_l, cs_0, cs_i, cs_r, cs_n, cs_l, aRf_s, aRf_n, gi_wl, gi_wr, gl_wi, gl_wl, gl_wr, gr_wi, gr_wl, gr_wr, sh_wi, sh_wl, sh_wr, gl_cp, gr_cp, sh_cp, gl_rw, gr_rw, sh_rw, gi_rl, gr_rl, sh_rl, Option.toList_some, Option.toList_none, List.nil_append, List.cons_append, List.append_nil, Option.some.injEq, Prod.mk.injEq, and_true, true_and, and_self, if_true, if_false, reduceCtorEq, Nat.reduceLeDiff, Nat.reduceLT, Nat.reduceAdd, Nat.reduceEqDiff, false_and, and_false, exists_const, exists_eq_left, exists_eq_left', exists_and_left, and_assoc, nltL, nltR, nleL, nleR, neqL, neqR, naL, naR, nmL, nmR, nI_ltI, nI_leI, nI_eq, nI_add, nI_mul, nI_clamp, n0l, n0r, nm1, nm1', nm1l, nm1r, nm1g, nsL, nI_m1, Nat.add_sub_cancel, vpn, vpL, nclL, le32, leLL, leLN, leNL, leNN, inA, nb0, nb1, gi_wi_n, gi_wi_e, gi_rw_n, gi_rw_e, aWi_rw, z32 ok, c_isStep ok hM' r1 r5, hb, bI_0]
      exact s
    · simp (disch := omega) only [s269_0, s269_1, s269_2, s269_5, s269_8, s269_9, s269_10, s269_11, s269_12, s269_13, s269_15, s269_16, s269_19, s269_22, s269_23, s269_26, s269_27, s269_28, s269_29, s269_30, s269_31, s269_32, s269_35, s269_36, s269_39, s269_40, s269_41, s269_42, s269_43, s269_44, s269_45, s269_48, s269_51, s269_52, s269_55, s269_56, s269_57, s269_60, s269_63, s269_64, true_or, or_true, or_false, false_or, or_self, Int32.reduceLT, Int32.reduceLE, Nat.add_zero, Nat.zero_add, Nat.not_lt_zero, not_false_eq_true, not_true_eq_false, and_assoc, kl_q, kl_i, kl_r, kl_n, kl_0, kl_l, cs_0, cs_i, cs_r, cs_n, cs_l, aRf_s, aRf_n, gi_wl, gi_wr, gl_wi, gl_wl, gl_wr, gr_wi, gr_wl, gr_wr, sh_wi, sh_wl, sh_wr, gl_cp, gr_cp, sh_cp, gl_rw, gr_rw, sh_rw, gi_rl, gr_rl, sh_rl, Option.toList_some, Option.toList_none, List.nil_append, List.cons_append, List.append_nil, Option.some.injEq, Prod.mk.injEq, and_true, true_and, and_self, if_true, if_false, reduceCtorEq, Nat.reduceLeDiff, Nat.reduceLT, Nat.reduceAdd, Nat.reduceEqDiff, false_and, and_false, exists_const, exists_eq_left, exists_eq_left', exists_and_left, and_assoc, nltL, nltR, nleL, nleR, neqL, neqR, naL, naR, nmL, nmR, nI_ltI, nI_leI, nI_eq, nI_add, nI_mul, nI_clamp, n0l, n0r, nm1, nm1', nm1l, nm1r, nm1g, nsL, nI_m1, Nat.add_sub_cancel, vpn, vpL, nclL, le32, leLL, leLN, leNL, leNN, inA, nb0, nb1, gi_wi_n, gi_wi_e, gi_rw_n, gi_rw_e, aWi_rw, z399 ok, m_isStep ok hM' r2 r6, hb, bI_0]
      exact s
  · obtain ⟨h0, x, hx, rfl⟩ := isS_of hb (by omega)
    refine ⟨nI (fst (nrR g x) M), fun d h s => ?_⟩
    obtain ⟨r1, r2, r3, r4, r5, r6, r7, r8⟩ := rd58 it s
    obtain ⟨w1, w2, w3, w4, w5, w6⟩ := rdNow cb.2.2.2.2.1 s
    have ok := s.1
    constructor
    · simp (disch := omega) only [s154_0, s154_1, s154_2, s154_5, s154_8, s154_9, s154_10, s154_11, s154_12, s154_13, s154_15, s154_16, s154_19, s154_22, s154_25, s154_26, s154_29, s154_32, s154_33, s154_34, s154_35, s154_36, s154_39, s154_40, s154_43, s154_46, s154_47, s154_48, s154_49, s154_50, s154_53, s154_56, s154_57, s154_58, s154_61, s154_64, s154_65, true_or, or_true, or_false, false_or, or_self, Int32.reduceLT, Int32.reduceLE, Nat.add_zero, Nat.zero_add, Nat.not_lt_zero, not_false_eq_true, not_true_eq_false, and_assoc, kl_q, kl_i, kl_r, kl_n, kl_0, kl_l, cs_0, cs_i, cs_r, cs_n, cs_l, aRf_s, aRf_n, gi_wl, gi_wr, gl_wi, gl_wl, gl_wr, gr_wi, gr_wl, gr_wr, sh_wi, sh_wl, sh_wr, gl_cp, gr_cp, sh_cp, gl_rw, gr_rw, sh_rw, gi_rl, gr_rl, sh_rl, Option.toList_some, Option.toList_none, List.nil_append, List.cons_append, List.append_nil, Option.some.injEq, Prod.mk.injEq, and_true, true_and, and_self, if_true, if_false, reduceCtorEq, Nat.reduceLeDiff, Nat.reduceLT, Nat.reduceAdd, Nat.reduceEqDiff, false_and, and_false, exists_const, exists_eq_left, exists_eq_left', exists_and_left, and_assoc, nltL, nltR, nleL, nleR, neqL, neqR, naL, naR, nmL, nmR, nI_ltI, nI_leI, nI_eq, nI_add, nI_mul, nI_clamp, n0l, n0r, nm1, nm1', nm1l, nm1r, nm1g, nsL, nI_m1, Nat.add_sub_cancel, vpn, vpL, nclL, le32, leLL, leLN, leNL, leNN, inA, nb0, nb1, gi_wi_n, gi_wi_e, gi_rw_n, gi_rw_e, aWi_rw, z32 ok, c_isStep ok hM' r1 r5, hb, bI_0]
      refine aLoop M (fun k lv h' => 0 < k ∧ lv = [some (.ref 32), some (.int (nI x)), some (.int (nI (fst (nrR g x) k))), some (.int (nI k))] ∧ h' = h) ?_ ?_ 1 _ _ h0 ⟨by omega, by rw [fst1]; rfl, rfl⟩
      · rintro k lv h' hk ⟨k0, rfl, rfl⟩ hk2
        have e1 : ¬ M ≤ k := by omega
        have e2 := fst_le (r := nrR g x) k0
        have e3 : fst (nrR g x) k < 6 := by omega
        have e4 : k < 6 := by omega
        have e5 := (w1 k (by omega)).1
        have e6 := (w1 (fst (nrR g x) k) (by omega)).1
        have hk' := hk2 _ _ ⟨by omega, rfl, rfl⟩
        rw [fst] at hk'
        rw [s154_14]
        simp (disch := omega) only [s154_0, s154_1, s154_2, s154_5, s154_8, s154_9, s154_10, s154_11, s154_12, s154_13, s154_15, s154_16, s154_19, s154_22, s154_25, s154_26, s154_29, s154_32, s154_33, s154_34, s154_35, s154_36, s154_39, s154_40, s154_43, s154_46, s154_47, s154_48, s154_49, s154_50, s154_53, s154_56, s154_57, s154_58, s154_61, s154_64, s154_65, true_or, or_true, or_false, false_or, or_self, Int32.reduceLT, Int32.reduceLE, Nat.add_zero, Nat.zero_add, Nat.not_lt_zero, not_false_eq_true, not_true_eq_false, and_assoc, kl_q, kl_i, kl_r, kl_n, kl_0, kl_l, cs_0, cs_i, cs_r, cs_n, cs_l, aRf_s, aRf_n, gi_wl, gi_wr, gl_wi, gl_wl, gl_wr, gr_wi, gr_wl, gr_wr, sh_wi, sh_wl, sh_wr, gl_cp, gr_cp, sh_cp, gl_rw, gr_rw, sh_rw, gi_rl, gr_rl, sh_rl, Option.toList_some, Option.toList_none, List.nil_append, List.cons_append, List.append_nil, Option.some.injEq, Prod.mk.injEq, and_true, true_and, and_self, if_true, if_false, reduceCtorEq, Nat.reduceLeDiff, Nat.reduceLT, Nat.reduceAdd, Nat.reduceEqDiff, false_and, and_false, exists_const, exists_eq_left, exists_eq_left', exists_and_left, and_assoc, nltL, nltR, nleL, nleR, neqL, neqR, naL, naR, nmL, nmR, nI_ltI, nI_leI, nI_eq, nI_add, nI_mul, nI_clamp, n0l, n0r, nm1, nm1', nm1l, nm1r, nm1g, nsL, nI_m1, Nat.add_sub_cancel, vpn, vpL, nclL, le32, leLL, leLN, leNL, leNN, inA, nb0, nb1, gi_wi_n, gi_wi_e, gi_rw_n, gi_rw_e, aWi_rw, z32 ok, z58 ok, z79 ok, z80 ok, r32_3 ok, r32_5 ok, r79_0 ok, r1, e1, e3, e4, e5, e6, sp_abs]
        by_cases hr : nrR g x k (fst (nrR g x) k) = true
        · rw [if_pos hr] at hk'
          rw [if_neg (Int32.not_le.mpr (of_decide_eq_true hr))]
          exact hk'
        · rw [if_neg hr] at hk'
          rw [if_pos (Int32.not_lt.mp (fun q => hr (decide_eq_true q)))]
          exact hk'
      · rintro lv h' ⟨k0, rfl, rfl⟩
        rw [s154_14]
        simp (disch := omega) only [s154_0, s154_1, s154_2, s154_5, s154_8, s154_9, s154_10, s154_11, s154_12, s154_13, s154_15, s154_16, s154_19, s154_22, s154_25, s154_26, s154_29, s154_32, s154_33, s154_34, s154_35, s154_36, s154_39, s154_40, s154_43, s154_46, s154_47, s154_48, s154_49, s154_50, s154_53, s154_56, s154_57, s154_58, s154_61, s154_64, s154_65, true_or, or_true, or_false, false_or, or_self, Int32.reduceLT, Int32.reduceLE, Nat.add_zero, Nat.zero_add, Nat.not_lt_zero, not_false_eq_true, not_true_eq_false, and_assoc, kl_q, kl_i, kl_r, kl_n, kl_0, kl_l, cs_0, cs_i, cs_r, cs_n, cs_l, aRf_s, aRf_n, gi_wl, gi_wr, gl_wi, gl_wl, gl_wr, gr_wi, gr_wl, gr_wr, sh_wi, sh_wl, sh_wr, gl_cp, gr_cp, sh_cp, gl_rw, gr_rw, sh_rw, gi_rl, gr_rl, sh_rl, Option.toList_some, Option.toList_none, List.nil_append, List.cons_append, List.append_nil, Option.some.injEq, Prod.mk.injEq, and_true, true_and, and_self, if_true, if_false, reduceCtorEq, Nat.reduceLeDiff, Nat.reduceLT, Nat.reduceAdd, Nat.reduceEqDiff, false_and, and_false, exists_const, exists_eq_left, exists_eq_left', exists_and_left, and_assoc, nltL, nltR, nleL, nleR, neqL, neqR, naL, naR, nmL, nmR, nI_ltI, nI_leI, nI_eq, nI_add, nI_mul, nI_clamp, n0l, n0r, nm1, nm1', nm1l, nm1r, nm1g, nsL, nI_m1, Nat.add_sub_cancel, vpn, vpL, nclL, le32, leLL, leLN, leNL, leNN, inA, nb0, nb1, gi_wi_n, gi_wi_e, gi_rw_n, gi_rw_e, aWi_rw, z32 ok, z58 ok, r32_3 ok, r1, Nat.le_refl]
        exact s
    · simp (disch := omega) only [s269_0, s269_1, s269_2, s269_5, s269_8, s269_9, s269_10, s269_11, s269_12, s269_13, s269_15, s269_16, s269_19, s269_22, s269_23, s269_26, s269_27, s269_28, s269_29, s269_30, s269_31, s269_32, s269_35, s269_36, s269_39, s269_40, s269_41, s269_42, s269_43, s269_44, s269_45, s269_48, s269_51, s269_52, s269_55, s269_56, s269_57, s269_60, s269_63, s269_64, true_or, or_true, or_false, false_or, or_self, Int32.reduceLT, Int32.reduceLE, Nat.add_zero, Nat.zero_add, Nat.not_lt_zero, not_false_eq_true, not_true_eq_false, and_assoc, kl_q, kl_i, kl_r, kl_n, kl_0, kl_l, cs_0, cs_i, cs_r, cs_n, cs_l, aRf_s, aRf_n, gi_wl, gi_wr, gl_wi, gl_wl, gl_wr, gr_wi, gr_wl, gr_wr, sh_wi, sh_wl, sh_wr, gl_cp, gr_cp, sh_cp, gl_rw, gr_rw, sh_rw, gi_rl, gr_rl, sh_rl, Option.toList_some, Option.toList_none, List.nil_append, List.cons_append, List.append_nil, Option.some.injEq, Prod.mk.injEq, and_true, true_and, and_self, if_true, if_false, reduceCtorEq, Nat.reduceLeDiff, Nat.reduceLT, Nat.reduceAdd, Nat.reduceEqDiff, false_and, and_false, exists_const, exists_eq_left, exists_eq_left', exists_and_left, and_assoc, nltL, nltR, nleL, nleR, neqL, neqR, naL, naR, nmL, nmR, nI_ltI, nI_leI, nI_eq, nI_add, nI_mul, nI_clamp, n0l, n0r, nm1, nm1', nm1l, nm1r, nm1g, nsL, nI_m1, Nat.add_sub_cancel, vpn, vpL, nclL, le32, leLL, leLN, leNL, leNN, inA, nb0, nb1, gi_wi_n, gi_wi_e, gi_rw_n, gi_rw_e, aWi_rw, z399 ok, m_isStep ok hM' r2 r6, hb, bI_0]
      refine aLoop M (fun k lv h' => 0 < k ∧ lv = [some (.ref 399), some (.int (nI x)), some (.int (nI (fst (nrR g x) k))), some (.int (nI k))] ∧ h' = h) ?_ ?_ 1 _ _ h0 ⟨by omega, by rw [fst1]; rfl, rfl⟩
      · rintro k lv h' hk ⟨k0, rfl, rfl⟩ hk2
        have e1 : ¬ M ≤ k := by omega
        have e2 := fst_le (r := nrR g x) k0
        have e3 : fst (nrR g x) k < 214 := by omega
        have e4 : k < 214 := by omega
        have e5 : gi h' 416 k = stG g k := s.2 _ _ rfl
        have e6 : gi h' 416 (fst (nrR g x) k) = stG g (fst (nrR g x) k) := s.2 _ _ rfl
        have hk' := hk2 _ _ ⟨by omega, rfl, rfl⟩
        rw [fst] at hk'
        rw [s269_14]
        simp (disch := omega) only [s269_0, s269_1, s269_2, s269_5, s269_8, s269_9, s269_10, s269_11, s269_12, s269_13, s269_15, s269_16, s269_19, s269_22, s269_23, s269_26, s269_27, s269_28, s269_29, s269_30, s269_31, s269_32, s269_35, s269_36, s269_39, s269_40, s269_41, s269_42, s269_43, s269_44, s269_45, s269_48, s269_51, s269_52, s269_55, s269_56, s269_57, s269_60, s269_63, s269_64, true_or, or_true, or_false, false_or, or_self, Int32.reduceLT, Int32.reduceLE, Nat.add_zero, Nat.zero_add, Nat.not_lt_zero, not_false_eq_true, not_true_eq_false, and_assoc, kl_q, kl_i, kl_r, kl_n, kl_0, kl_l, cs_0, cs_i, cs_r, cs_n, cs_l, aRf_s, aRf_n, gi_wl, gi_wr, gl_wi, gl_wl, gl_wr, gr_wi, gr_wl, gr_wr, sh_wi, sh_wl, sh_wr, gl_cp, gr_cp, sh_cp, gl_rw, gr_rw, sh_rw, gi_rl, gr_rl, sh_rl, Option.toList_some, Option.toList_none, List.nil_append, List.cons_append, List.append_nil, Option.some.injEq, Prod.mk.injEq, and_true, true_and, and_self, if_true, if_false, reduceCtorEq, Nat.reduceLeDiff, Nat.reduceLT, Nat.reduceAdd, Nat.reduceEqDiff, false_and, and_false, exists_const, exists_eq_left, exists_eq_left', exists_and_left, and_assoc, nltL, nltR, nleL, nleR, neqL, neqR, naL, naR, nmL, nmR, nI_ltI, nI_leI, nI_eq, nI_add, nI_mul, nI_clamp, n0l, n0r, nm1, nm1', nm1l, nm1r, nm1g, nsL, nI_m1, Nat.add_sub_cancel, vpn, vpL, nclL, le32, leLL, leLN, leNL, leNN, inA, nb0, nb1, gi_wi_n, gi_wi_e, gi_rw_n, gi_rw_e, aWi_rw, z399 ok, z416 ok, r399_27 ok, r2, e1, e3, e4, e5, e6, sp_abs, Nat.zero_add]
        by_cases hr : nrR g x k (fst (nrR g x) k) = true
        · rw [if_pos hr] at hk'
          rw [if_neg (Int32.not_le.mpr (of_decide_eq_true hr))]
          exact hk'
        · rw [if_neg hr] at hk'
          rw [if_pos (Int32.not_lt.mp (fun q => hr (decide_eq_true q)))]
          exact hk'
      · rintro lv h' ⟨k0, rfl, rfl⟩
        rw [s269_14]
        simp (disch := omega) only [s269_0, s269_1, s269_2, s269_5, s269_8, s269_9, s269_10, s269_11, s269_12, s269_13, s269_15, s269_16, s269_19, s269_22, s269_23, s269_26, s269_27, s269_28, s269_29, s269_30, s269_31, s269_32, s269_35, s269_36, s269_39, s269_40, s269_41, s269_42, s269_43, s269_44, s269_45, s269_48, s269_51, s269_52, s269_55, s269_56, s269_57, s269_60, s269_63, s269_64, true_or, or_true, or_false, false_or, or_self, Int32.reduceLT, Int32.reduceLE, Nat.add_zero, Nat.zero_add, Nat.not_lt_zero, not_false_eq_true, not_true_eq_false, and_assoc, kl_q, kl_i, kl_r, kl_n, kl_0, kl_l, cs_0, cs_i, cs_r, cs_n, cs_l, aRf_s, aRf_n, gi_wl, gi_wr, gl_wi, gl_wl, gl_wr, gr_wi, gr_wl, gr_wr, sh_wi, sh_wl, sh_wr, gl_cp, gr_cp, sh_cp, gl_rw, gr_rw, sh_rw, gi_rl, gr_rl, sh_rl, Option.toList_some, Option.toList_none, List.nil_append, List.cons_append, List.append_nil, Option.some.injEq, Prod.mk.injEq, and_true, true_and, and_self, if_true, if_false, reduceCtorEq, Nat.reduceLeDiff, Nat.reduceLT, Nat.reduceAdd, Nat.reduceEqDiff, false_and, and_false, exists_const, exists_eq_left, exists_eq_left', exists_and_left, and_assoc, nltL, nltR, nleL, nleR, neqL, neqR, naL, naR, nmL, nmR, nI_ltI, nI_leI, nI_eq, nI_add, nI_mul, nI_clamp, n0l, n0r, nm1, nm1', nm1l, nm1r, nm1g, nsL, nI_m1, Nat.add_sub_cancel, vpn, vpL, nclL, le32, leLL, leLN, leNL, leNN, inA, nb0, nb1, gi_wi_n, gi_wi_e, gi_rw_n, gi_rw_e, aWi_rw, z399 ok, r2, Nat.le_refl]
        exact s
def mxR (f : Nat → Int32) (k b : Nat) : Bool := decide (f b < f k)
/-- first of most: no place where there is none -/
def fmI (f : Nat → Int32) (n : Nat) : Int32 := if n = 0 then -1 else nI (fst (mxR f) n)
theorem fmI_s {f : Nat → Int32} {n : Nat} (h : n < 100) : fmI f (n + 1) = if fmI f n = -1 ∨ f (cN (fmI f n)) < f n then nI n else fmI f n := by
  by_cases h0 : n = 0
  · subst h0
    rw [fmI, if_neg (by omega), fst1]
    rfl
  · have e1 : fmI f n = nI (fst (mxR f) n) := by rw [fmI, if_neg h0]
    have e2 := fst_le (r := mxR f) (n := n) (by omega)
    have e3 : ¬ nI (fst (mxR f) n) = -1 := fun q => (nm1 (by omega)).mp q
    rw [e1, fmI, if_neg (by omega), fst, cN, nI_clamp (by omega)]
    by_cases hr : mxR f n (fst (mxR f) n) = true
    · rw [if_pos hr, if_pos (Or.inr (of_decide_eq_true hr))]
    · rw [if_neg hr, if_neg]
      rintro (q | q)
      · exact e3 q
      · exact hr (decide_eq_true q)
theorem c_fom {d : Nat} {h : aM} {Q : Option Value → aM → Prop} {A len n : Nat} {f : Nat → Int32} (hs : sh h A = some (100, len)) (hl : n ≤ len) (hl2 : len < 100) (hf : ∀ k, k < n → gi h A k = f k) (hq : Q (some (.int (fmI f n))) h) : AW d 156 0 [some (.ref A), some (.int (nI n)), none, none] [] h Q := by
  simp (disch := omega) only [s156_0, s156_1, s156_2, s156_3, s156_5, s156_6, s156_9, s156_10, s156_11, s156_14, s156_15, s156_16, s156_17, s156_18, s156_19, s156_20, s156_23, s156_24, s156_25, s156_28, s156_31, s156_32, true_or, or_true, or_false, false_or, or_self, Int32.reduceLT, Int32.reduceLE, Nat.add_zero, Nat.zero_add, Nat.not_lt_zero, not_false_eq_true, not_true_eq_false, and_assoc, kl_q, kl_i, kl_r, kl_n, kl_0, kl_l, cs_0, cs_i, cs_r, cs_n, cs_l, aRf_s, aRf_n, gi_wl, gi_wr, gl_wi, gl_wl, gl_wr, gr_wi, gr_wl, gr_wr, sh_wi, sh_wl, sh_wr, gl_cp, gr_cp, sh_cp, gl_rw, gr_rw, sh_rw, gi_rl, gr_rl, sh_rl, Option.toList_some, Option.toList_none, List.nil_append, List.cons_append, List.append_nil, Option.some.injEq, Prod.mk.injEq, and_true, true_and, and_self, if_true, if_false, reduceCtorEq, Nat.reduceLeDiff, Nat.reduceLT, Nat.reduceAdd, Nat.reduceEqDiff, false_and, and_false, exists_const, exists_eq_left, exists_eq_left', exists_and_left, and_assoc, nltL, nltR, nleL, nleR, neqL, neqR, naL, naR, nmL, nmR, nI_ltI, nI_leI, nI_eq, nI_add, nI_mul, nI_clamp, n0l, n0r, nm1, nm1', nm1l, nm1r, nm1g, nsL, nI_m1, Nat.add_sub_cancel, vpn, vpL, nclL, le32, leLL, leLN, leNL, leNN, inA, nb0, nb1, gi_wi_n, gi_wi_e, gi_rw_n, gi_rw_e, aWi_rw]
  refine aLoop n (fun k lv h' => lv = [some (.ref A), some (.int (nI n)), some (.int (fmI f k)), some (.int (nI k))] ∧ h' = h) ?_ ?_ 0 _ _ (Nat.zero_le _) ⟨rfl, rfl⟩
  · rintro k lv h' hk ⟨rfl, rfl⟩ hk2
    have e1 : ¬ n ≤ k := by omega
    have e2 : k < len := by omega
    have e3 := hf k hk
    have hk' := hk2 _ _ ⟨rfl, rfl⟩
    rw [fmI_s (by omega)] at hk'
    rw [s156_4]
    by_cases h0 : k = 0
    · subst h0
      rw [if_pos (Or.inl (show fmI f 0 = -1 from rfl))] at hk'
      simp (disch := omega) only [s156_0, s156_1, s156_2, s156_3, s156_5, s156_6, s156_9, s156_10, s156_11, s156_14, s156_15, s156_16, s156_17, s156_18, s156_19, s156_20, s156_23, s156_24, s156_25, s156_28, s156_31, s156_32, true_or, or_true, or_false, false_or, or_self, Int32.reduceLT, Int32.reduceLE, Nat.add_zero, Nat.zero_add, Nat.not_lt_zero, not_false_eq_true, not_true_eq_false, and_assoc, kl_q, kl_i, kl_r, kl_n, kl_0, kl_l, cs_0, cs_i, cs_r, cs_n, cs_l, aRf_s, aRf_n, gi_wl, gi_wr, gl_wi, gl_wl, gl_wr, gr_wi, gr_wl, gr_wr, sh_wi, sh_wl, sh_wr, gl_cp, gr_cp, sh_cp, gl_rw, gr_rw, sh_rw, gi_rl, gr_rl, sh_rl, Option.toList_some, Option.toList_none, List.nil_append, List.cons_append, List.append_nil, Option.some.injEq, Prod.mk.injEq, and_true, true_and, and_self, if_true, if_false, reduceCtorEq, Nat.reduceLeDiff, Nat.reduceLT, Nat.reduceAdd, Nat.reduceEqDiff, false_and, and_false, exists_const, exists_eq_left, exists_eq_left', exists_and_left, and_assoc, nltL, nltR, nleL, nleR, neqL, neqR, naL, naR, nmL, nmR, nI_ltI, nI_leI, nI_eq, nI_add, nI_mul, nI_clamp, n0l, n0r, nm1, nm1', nm1l, nm1r, nm1g, nsL, nI_m1, Nat.add_sub_cancel, vpn, vpL, nclL, le32, leLL, leLN, leNL, leNN, inA, nb0, nb1, gi_wi_n, gi_wi_e, gi_rw_n, gi_rw_e, aWi_rw, e1, show fmI f 0 = -1 from rfl]
      exact hk'
    · have e4 : fmI f k = nI (fst (mxR f) k) := by rw [fmI, if_neg h0]
      have e5 := fst_le (r := mxR f) (n := k) (by omega)
      have e6 := hf (fst (mxR f) k) (by omega)
      have e7 : fst (mxR f) k < len := by omega
      have e8 : ¬ nI (fst (mxR f) k) = -1 := fun q => (nm1 (by omega)).mp q
      rw [e4, cN, nI_clamp (by omega)] at hk'
      simp (disch := omega) only [s156_0, s156_1, s156_2, s156_3, s156_5, s156_6, s156_9, s156_10, s156_11, s156_14, s156_15, s156_16, s156_17, s156_18, s156_19, s156_20, s156_23, s156_24, s156_25, s156_28, s156_31, s156_32, true_or, or_true, or_false, false_or, or_self, Int32.reduceLT, Int32.reduceLE, Nat.add_zero, Nat.zero_add, Nat.not_lt_zero, not_false_eq_true, not_true_eq_false, and_assoc, kl_q, kl_i, kl_r, kl_n, kl_0, kl_l, cs_0, cs_i, cs_r, cs_n, cs_l, aRf_s, aRf_n, gi_wl, gi_wr, gl_wi, gl_wl, gl_wr, gr_wi, gr_wl, gr_wr, sh_wi, sh_wl, sh_wr, gl_cp, gr_cp, sh_cp, gl_rw, gr_rw, sh_rw, gi_rl, gr_rl, sh_rl, Option.toList_some, Option.toList_none, List.nil_append, List.cons_append, List.append_nil, Option.some.injEq, Prod.mk.injEq, and_true, true_and, and_self, if_true, if_false, reduceCtorEq, Nat.reduceLeDiff, Nat.reduceLT, Nat.reduceAdd, Nat.reduceEqDiff, false_and, and_false, exists_const, exists_eq_left, exists_eq_left', exists_and_left, and_assoc, nltL, nltR, nleL, nleR, neqL, neqR, naL, naR, nmL, nmR, nI_ltI, nI_leI, nI_eq, nI_add, nI_mul, nI_clamp, n0l, n0r, nm1, nm1', nm1l, nm1r, nm1g, nsL, nI_m1, Nat.add_sub_cancel, vpn, vpL, nclL, le32, leLL, leLN, leNL, leNN, inA, nb0, nb1, gi_wi_n, gi_wi_e, gi_rw_n, gi_rw_e, aWi_rw, e1, e2, e3, e4, e6, e7, hs]
      by_cases hr : f (fst (mxR f) k) < f k
      · rw [if_pos (Or.inr hr)] at hk'
        rw [if_neg (Int32.not_le.mpr hr)]
        exact hk'
      · rw [if_neg (fun q => q.elim e8 hr)] at hk'
        rw [if_pos (Int32.not_lt.mp hr)]
        exact hk'
  · rintro lv h' ⟨rfl, rfl⟩
    rw [s156_4]
    simp (disch := omega) only [s156_0, s156_1, s156_2, s156_3, s156_5, s156_6, s156_9, s156_10, s156_11, s156_14, s156_15, s156_16, s156_17, s156_18, s156_19, s156_20, s156_23, s156_24, s156_25, s156_28, s156_31, s156_32, true_or, or_true, or_false, false_or, or_self, Int32.reduceLT, Int32.reduceLE, Nat.add_zero, Nat.zero_add, Nat.not_lt_zero, not_false_eq_true, not_true_eq_false, and_assoc, kl_q, kl_i, kl_r, kl_n, kl_0, kl_l, cs_0, cs_i, cs_r, cs_n, cs_l, aRf_s, aRf_n, gi_wl, gi_wr, gl_wi, gl_wl, gl_wr, gr_wi, gr_wl, gr_wr, sh_wi, sh_wl, sh_wr, gl_cp, gr_cp, sh_cp, gl_rw, gr_rw, sh_rw, gi_rl, gr_rl, sh_rl, Option.toList_some, Option.toList_none, List.nil_append, List.cons_append, List.append_nil, Option.some.injEq, Prod.mk.injEq, and_true, true_and, and_self, if_true, if_false, reduceCtorEq, Nat.reduceLeDiff, Nat.reduceLT, Nat.reduceAdd, Nat.reduceEqDiff, false_and, and_false, exists_const, exists_eq_left, exists_eq_left', exists_and_left, and_assoc, nltL, nltR, nleL, nleR, neqL, neqR, naL, naR, nmL, nmR, nI_ltI, nI_leI, nI_eq, nI_add, nI_mul, nI_clamp, n0l, n0r, nm1, nm1', nm1l, nm1r, nm1g, nsL, nI_m1, Nat.add_sub_cancel, vpn, vpL, nclL, le32, leLL, leLN, leNL, leNN, inA, nb0, nb1, gi_wi_n, gi_wi_e, gi_rw_n, gi_rw_e, aWi_rw, Nat.le_refl]
    exact hq
theorem c_high {d : Nat} {h : aM} {Q : Option Value → aM → Prop} (it : ITold g M F L W) (s : Same g h) (h0 : 0 < M) (hq : Q (some (.int (nI (fst (mxR (rkG g)) M)))) h) : AW d 157 0 [some (.ref 32), none, none] [] h Q := by
  have hM : M ≤ 6 := it.1
  have hM' : M ≤ 10 := by omega
  have hF : F ≤ 5 := it.2.1
  have hF' : F ≤ 10 := by omega
  have hL : L ≤ 30 := it.2.2.1
  have hW : W ≤ 20 := it.2.2.2.1
  obtain ⟨r1, r2, r3, r4, r5, r6, r7, r8⟩ := rd58 it s
  have ok := s.1
  have w : ∀ k, k < M → gi h (61 + k) 3 = rkG g k := fun k hk => by
    rw [s.2 _ _ (by have : k = 0 ∨ k = 1 ∨ k = 2 ∨ k = 3 ∨ k = 4 ∨ k = 5 := by omega
                    rcases this with rfl | rfl | rfl | rfl | rfl | rfl <;> rfl), (it.2.2.2.2.2.2.2.2.2.2.2.2.2.1 k hk).1]
    rfl
  simp (disch := omega) only [s157_0, s157_1, s157_2, s157_3, s157_5, s157_6, s157_9, s157_12, s157_15, s157_16, s157_19, s157_22, s157_23, s157_24, s157_25, s157_26, s157_27, s157_30, s157_33, s157_34, s157_35, s157_36, s157_37, s157_40, s157_41, s157_42, s157_45, s157_48, s157_49, true_or, or_true, or_false, false_or, or_self, Int32.reduceLT, Int32.reduceLE, Nat.add_zero, Nat.zero_add, Nat.not_lt_zero, not_false_eq_true, not_true_eq_false, and_assoc, kl_q, kl_i, kl_r, kl_n, kl_0, kl_l, cs_0, cs_i, cs_r, cs_n, cs_l, aRf_s, aRf_n, gi_wl, gi_wr, gl_wi, gl_wl, gl_wr, gr_wi, gr_wl, gr_wr, sh_wi, sh_wl, sh_wr, gl_cp, gr_cp, sh_cp, gl_rw, gr_rw, sh_rw, gi_rl, gr_rl, sh_rl, Option.toList_some, Option.toList_none, List.nil_append, List.cons_append, List.append_nil, Option.some.injEq, Prod.mk.injEq, and_true, true_and, and_self, if_true, if_false, reduceCtorEq, Nat.reduceLeDiff, Nat.reduceLT, Nat.reduceAdd, Nat.reduceEqDiff, false_and, and_false, exists_const, exists_eq_left, exists_eq_left', exists_and_left, and_assoc, nltL, nltR, nleL, nleR, neqL, neqR, naL, naR, nmL, nmR, nI_ltI, nI_leI, nI_eq, nI_add, nI_mul, nI_clamp, n0l, n0r, nm1, nm1', nm1l, nm1r, nm1g, nsL, nI_m1, Nat.add_sub_cancel, vpn, vpL, nclL, le32, leLL, leLN, leNL, leNN, inA, nb0, nb1, gi_wi_n, gi_wi_e, gi_rw_n, gi_rw_e, aWi_rw]
  refine aLoop M (fun k lv h' => 0 < k ∧ lv = [some (.ref 32), some (.int (nI (fst (mxR (rkG g)) k))), some (.int (nI k))] ∧ h' = h) ?_ ?_ 1 _ _ h0 ⟨by omega, by rw [fst1]; rfl, rfl⟩
  · rintro k lv h' hk ⟨k0, rfl, rfl⟩ hk2
    have e1 : ¬ M ≤ k := by omega
    have e2 := fst_le (r := mxR (rkG g)) k0
    have e3 : fst (mxR (rkG g)) k < 6 := by omega
    have e4 : k < 6 := by omega
    have e5 := w k hk
    have e6 := w (fst (mxR (rkG g)) k) (by omega)
    have hk' := hk2 _ _ ⟨by omega, rfl, rfl⟩
    rw [fst] at hk'
    rw [s157_4]
    simp (disch := omega) only [s157_0, s157_1, s157_2, s157_3, s157_5, s157_6, s157_9, s157_12, s157_15, s157_16, s157_19, s157_22, s157_23, s157_24, s157_25, s157_26, s157_27, s157_30, s157_33, s157_34, s157_35, s157_36, s157_37, s157_40, s157_41, s157_42, s157_45, s157_48, s157_49, true_or, or_true, or_false, false_or, or_self, Int32.reduceLT, Int32.reduceLE, Nat.add_zero, Nat.zero_add, Nat.not_lt_zero, not_false_eq_true, not_true_eq_false, and_assoc, kl_q, kl_i, kl_r, kl_n, kl_0, kl_l, cs_0, cs_i, cs_r, cs_n, cs_l, aRf_s, aRf_n, gi_wl, gi_wr, gl_wi, gl_wl, gl_wr, gr_wi, gr_wl, gr_wr, sh_wi, sh_wl, sh_wr, gl_cp, gr_cp, sh_cp, gl_rw, gr_rw, sh_rw, gi_rl, gr_rl, sh_rl, Option.toList_some, Option.toList_none, List.nil_append, List.cons_append, List.append_nil, Option.some.injEq, Prod.mk.injEq, and_true, true_and, and_self, if_true, if_false, reduceCtorEq, Nat.reduceLeDiff, Nat.reduceLT, Nat.reduceAdd, Nat.reduceEqDiff, false_and, and_false, exists_const, exists_eq_left, exists_eq_left', exists_and_left, and_assoc, nltL, nltR, nleL, nleR, neqL, neqR, naL, naR, nmL, nmR, nI_ltI, nI_leI, nI_eq, nI_add, nI_mul, nI_clamp, n0l, n0r, nm1, nm1', nm1l, nm1r, nm1g, nsL, nI_m1, Nat.add_sub_cancel, vpn, vpL, nclL, le32, leLL, leLN, leNL, leNN, inA, nb0, nb1, gi_wi_n, gi_wi_e, gi_rw_n, gi_rw_e, aWi_rw, z32 ok, z58 ok, z60 ok, r32_3 ok, r58_1 ok, r1, e1, e3, e4, e5, e6, g60 ok e3, q61 ok e3, g60 ok e4, q61 ok e4]
    by_cases hr : mxR (rkG g) k (fst (mxR (rkG g)) k) = true
    · rw [if_pos hr] at hk'
      rw [if_neg (Int32.not_le.mpr (of_decide_eq_true hr))]
      exact hk'
    · rw [if_neg hr] at hk'
      rw [if_pos (Int32.not_lt.mp (fun q => hr (decide_eq_true q)))]
      exact hk'
  · rintro lv h' ⟨k0, rfl, rfl⟩
    rw [s157_4]
    simp (disch := omega) only [s157_0, s157_1, s157_2, s157_3, s157_5, s157_6, s157_9, s157_12, s157_15, s157_16, s157_19, s157_22, s157_23, s157_24, s157_25, s157_26, s157_27, s157_30, s157_33, s157_34, s157_35, s157_36, s157_37, s157_40, s157_41, s157_42, s157_45, s157_48, s157_49, true_or, or_true, or_false, false_or, or_self, Int32.reduceLT, Int32.reduceLE, Nat.add_zero, Nat.zero_add, Nat.not_lt_zero, not_false_eq_true, not_true_eq_false, and_assoc, kl_q, kl_i, kl_r, kl_n, kl_0, kl_l, cs_0, cs_i, cs_r, cs_n, cs_l, aRf_s, aRf_n, gi_wl, gi_wr, gl_wi, gl_wl, gl_wr, gr_wi, gr_wl, gr_wr, sh_wi, sh_wl, sh_wr, gl_cp, gr_cp, sh_cp, gl_rw, gr_rw, sh_rw, gi_rl, gr_rl, sh_rl, Option.toList_some, Option.toList_none, List.nil_append, List.cons_append, List.append_nil, Option.some.injEq, Prod.mk.injEq, and_true, true_and, and_self, if_true, if_false, reduceCtorEq, Nat.reduceLeDiff, Nat.reduceLT, Nat.reduceAdd, Nat.reduceEqDiff, false_and, and_false, exists_const, exists_eq_left, exists_eq_left', exists_and_left, and_assoc, nltL, nltR, nleL, nleR, neqL, neqR, naL, naR, nmL, nmR, nI_ltI, nI_leI, nI_eq, nI_add, nI_mul, nI_clamp, n0l, n0r, nm1, nm1', nm1l, nm1r, nm1g, nsL, nI_m1, Nat.add_sub_cancel, vpn, vpL, nclL, le32, leLL, leLN, leNL, leNN, inA, nb0, nb1, gi_wi_n, gi_wi_e, gi_rw_n, gi_rw_e, aWi_rw, z32 ok, z58 ok, r32_3 ok, r1, Nat.le_refl]
    exact hq
/-- a switch's number -/
theorem sw {n : Nat} (hn : n < 1000) (a : Int32) : (a.toInt < 0 ∨ (n : Int) < a.toInt) ∨ ∃ k, k ≤ n ∧ a = nI k := by
  by_cases h1 : a.toInt < 0
  · exact Or.inl (Or.inl h1)
  · by_cases h2 : (n : Int) < a.toInt
    · exact Or.inl (Or.inr h2)
    · have h3 : ¬ a < 0 := fun q => h1 (lti.mp q)
      obtain ⟨j, hj, rfl⟩ := nI_of h3
      rw [nI_toInt hj] at h2
      exact Or.inr ⟨j, by omega, rfl⟩
theorem inR_sw {n : Nat} (hn : n < 1000) {a : Int32} (h : a.toInt < 0 ∨ (n : Int) < a.toInt) : inR a 0 (nI n) = false := by
  unfold inR
  apply decide_eq_false
  rw [lei, lei, nI_toInt (by omega)]
  have e0 : (0 : Int32).toInt = 0 := rfl
  omega
theorem inR_n {n k : Nat} (hn : n < 2 ^ 31) (h : k ≤ n) : inR (nI k) 0 (nI n) = true := by
  unfold inR
  apply decide_eq_true
  exact ⟨nI_pos' (by omega), (nI_leI (by omega) hn).mpr h⟩
/-- the reference's loop of most, for deeds, glory, rank -/
theorem m_mostL {d : Nat} {h : aM} {w : Int32} {f : Nat → Int32} (it : ITold g M F L W) (s : Same g h) (h0 : 0 < M) (hww : w = 0 ∨ w = 1 ∨ w = 2) (hf : ∀ k, k < M → (if w = 0 then gi h 416 (12 + k) else if w = 1 then gi h 416 (18 + k) else gi h 414 (4 * k + 3)) = f k) : AW (d + 24) 272 22 [some (.ref 399), some (.int w), some (.int 0), some (.int 1)] [] h (fun v h' => v = some (.int (nI (fst (mxR f) M))) ∧ Same g h') := by
  have hM : M ≤ 6 := it.1
  have hM' : M ≤ 10 := by omega
  have hF : F ≤ 5 := it.2.1
  have hF' : F ≤ 10 := by omega
  have hL : L ≤ 30 := it.2.2.1
  have hW : W ≤ 20 := it.2.2.2.1
  obtain ⟨r1, r2, r3, r4, r5, r6, r7, r8⟩ := rd58 it s
  have ok := s.1
  refine aLoop M (fun k lv h' => 0 < k ∧ lv = [some (.ref 399), some (.int w), some (.int (nI (fst (mxR f) k))), some (.int (nI k))] ∧ h' = h) ?_ ?_ 1 _ _ h0 ⟨by omega, by rw [fst1]; rfl, rfl⟩
  · rintro k lv h' hk ⟨k0, rfl, rfl⟩ hk2
    have e1 : ¬ M ≤ k := by omega
    have e2 := fst_le (r := mxR f) k0
    have e5 := hf k hk
    have e6 := hf (fst (mxR f) k) (by omega)
    have a1 : 12 + k < 214 := by omega
    have a2 : 18 + k < 214 := by omega
    have a3 : 4 * k + 3 < 24 := by omega
    have a4 : 12 + fst (mxR f) k < 214 := by omega
    have a5 : 18 + fst (mxR f) k < 214 := by omega
    have a6 : 4 * fst (mxR f) k + 3 < 24 := by omega
    have hk' := hk2 _ _ ⟨by omega, rfl, rfl⟩
    rw [fst] at hk'
    rw [s272_22]
    rcases hww with rfl | rfl | rfl
    all_goals
      simp (disch := omega) only [if_true, if_false, nltL, nltR, nleL, nleR, neqL, neqR, naL, naR, nmL, nmR, nI_ltI, nI_leI, nI_eq, nI_add, nI_mul, nI_clamp, n0l, n0r, nm1, nm1', nm1l, nm1r, nm1g, nsL, nI_m1, Nat.add_sub_cancel, vpn, vpL, nclL, le32, leLL, leLN, leNL, leNN, inA, nb0, nb1, Nat.reduceEqDiff] at e5 e6
      simp (disch := omega) only [s272_0, s272_1, s272_4, s272_7, s272_8, s272_9, s272_10, s272_13, s272_16, s272_17, s272_18, s272_19, s272_20, s272_21, s272_23, s272_24, s272_27, s272_30, s272_31, s272_32, s272_35, s272_36, s272_37, s272_38, s272_41, s272_42, s272_43, s272_44, s272_47, s272_50, s272_51, s272_54, s272_55, s272_56, s272_59, s272_62, s272_63, s272_64, s272_67, s272_68, s272_71, s272_74, s272_75, s270_0, s270_1, s270_4, s270_5, s270_8, s270_10, s270_11, s270_12, s270_13, s270_16, s270_17, s270_18, s270_21, s270_22, s270_25, s270_27, s270_28, s270_29, s270_30, s270_33, s270_34, s270_35, s270_36, s270_39, s206_0, s206_1, s206_4, s206_5, s206_6, s206_7, s206_8, s206_9, s206_10, true_or, or_true, or_false, false_or, or_self, Int32.reduceLT, Int32.reduceLE, Nat.add_zero, Nat.zero_add, Nat.not_lt_zero, not_false_eq_true, not_true_eq_false, and_assoc, kl_q, kl_i, kl_r, kl_n, kl_0, kl_l, cs_0, cs_i, cs_r, cs_n, cs_l, aRf_s, aRf_n, gi_wl, gi_wr, gl_wi, gl_wl, gl_wr, gr_wi, gr_wl, gr_wr, sh_wi, sh_wl, sh_wr, gl_cp, gr_cp, sh_cp, gl_rw, gr_rw, sh_rw, gi_rl, gr_rl, sh_rl, Option.toList_some, Option.toList_none, List.nil_append, List.cons_append, List.append_nil, Option.some.injEq, Prod.mk.injEq, and_true, true_and, and_self, if_true, if_false, reduceCtorEq, Nat.reduceLeDiff, Nat.reduceLT, Nat.reduceAdd, Nat.reduceEqDiff, false_and, and_false, exists_const, exists_eq_left, exists_eq_left', exists_and_left, and_assoc, nltL, nltR, nleL, nleR, neqL, neqR, naL, naR, nmL, nmR, nI_ltI, nI_leI, nI_eq, nI_add, nI_mul, nI_clamp, n0l, n0r, nm1, nm1', nm1l, nm1r, nm1g, nsL, nI_m1, Nat.add_sub_cancel, vpn, vpL, nclL, le32, leLL, leLN, leNL, leNN, inA, nb0, nb1, gi_wi_n, gi_wi_e, gi_rw_n, gi_rw_e, aWi_rw, z399 ok, z414 ok, z416 ok, r399_23 ok, r399_27 ok, r2, e1, a1, a2, a3, a4, a5, a6, e5, e6]
      by_cases hr : mxR f k (fst (mxR f) k) = true
      · rw [if_pos hr] at hk'
        rw [if_neg (Int32.not_le.mpr (of_decide_eq_true hr))]
        exact hk'
      · rw [if_neg hr] at hk'
        rw [if_pos (Int32.not_lt.mp (fun q => hr (decide_eq_true q)))]
        exact hk'
  · rintro lv h' ⟨k0, rfl, rfl⟩
    rw [s272_22]
    rcases hww with rfl | rfl | rfl
    all_goals
      simp (disch := omega) only [s272_0, s272_1, s272_4, s272_7, s272_8, s272_9, s272_10, s272_13, s272_16, s272_17, s272_18, s272_19, s272_20, s272_21, s272_23, s272_24, s272_27, s272_30, s272_31, s272_32, s272_35, s272_36, s272_37, s272_38, s272_41, s272_42, s272_43, s272_44, s272_47, s272_50, s272_51, s272_54, s272_55, s272_56, s272_59, s272_62, s272_63, s272_64, s272_67, s272_68, s272_71, s272_74, s272_75, true_or, or_true, or_false, false_or, or_self, Int32.reduceLT, Int32.reduceLE, Nat.add_zero, Nat.zero_add, Nat.not_lt_zero, not_false_eq_true, not_true_eq_false, and_assoc, kl_q, kl_i, kl_r, kl_n, kl_0, kl_l, cs_0, cs_i, cs_r, cs_n, cs_l, aRf_s, aRf_n, gi_wl, gi_wr, gl_wi, gl_wl, gl_wr, gr_wi, gr_wl, gr_wr, sh_wi, sh_wl, sh_wr, gl_cp, gr_cp, sh_cp, gl_rw, gr_rw, sh_rw, gi_rl, gr_rl, sh_rl, Option.toList_some, Option.toList_none, List.nil_append, List.cons_append, List.append_nil, Option.some.injEq, Prod.mk.injEq, and_true, true_and, and_self, if_true, if_false, reduceCtorEq, Nat.reduceLeDiff, Nat.reduceLT, Nat.reduceAdd, Nat.reduceEqDiff, false_and, and_false, exists_const, exists_eq_left, exists_eq_left', exists_and_left, and_assoc, nltL, nltR, nleL, nleR, neqL, neqR, naL, naR, nmL, nmR, nI_ltI, nI_leI, nI_eq, nI_add, nI_mul, nI_clamp, n0l, n0r, nm1, nm1', nm1l, nm1r, nm1g, nsL, nI_m1, Nat.add_sub_cancel, vpn, vpL, nclL, le32, leLL, leLN, leNL, leNN, inA, nb0, nb1, gi_wi_n, gi_wi_e, gi_rw_n, gi_rw_e, aWi_rw, z399 ok, r2, Nat.le_refl]
      exact s
theorem sw4 (a : Int32) : (a.toInt < 0 ∨ 4 < a.toInt) ∨ a = 0 ∨ a = 1 ∨ a = 2 ∨ a = 3 ∨ a = 4 := by
  rcases sw (n := 4) (by omega) a with h | ⟨k, hk, rfl⟩
  · exact Or.inl h
  · have : k = 0 ∨ k = 1 ∨ k = 2 ∨ k = 3 ∨ k = 4 := by omega
    rcases this with rfl | rfl | rfl | rfl | rfl
    · exact Or.inr (Or.inl rfl)
    · exact Or.inr (Or.inr (Or.inl rfl))
    · exact Or.inr (Or.inr (Or.inr (Or.inl rfl)))
    · exact Or.inr (Or.inr (Or.inr (Or.inr (Or.inl rfl))))
    · exact Or.inr (Or.inr (Or.inr (Or.inr (Or.inr rfl))))
theorem sw3 (a : Int32) : (a.toInt < 0 ∨ 3 < a.toInt) ∨ a = 0 ∨ a = 1 ∨ a = 2 ∨ a = 3 := by
  rcases sw4 a with (h | h) | h | h | h | h | h
  · exact Or.inl (Or.inl h)
  · exact Or.inl (Or.inr (by omega))
  · exact Or.inr (Or.inl h)
  · exact Or.inr (Or.inr (Or.inl h))
  · exact Or.inr (Or.inr (Or.inr (Or.inl h)))
  · exact Or.inr (Or.inr (Or.inr (Or.inr h)))
  · subst h
    exact Or.inl (Or.inr (by decide))
theorem sw1 (a : Int32) : (a.toInt < 0 ∨ 1 < a.toInt) ∨ a = 0 ∨ a = 1 := by
  rcases sw3 a with (h | h) | h | h | h | h
  · exact Or.inl (Or.inl h)
  · exact Or.inl (Or.inr (by omega))
  · exact Or.inr (Or.inl h)
  · exact Or.inr (Or.inr h)
  · subst h
    exact Or.inl (Or.inr (by decide))
  · subst h
    exact Or.inl (Or.inr (by decide))
theorem m_deep {d : Nat} {h : aM} {Q : Option Value → aM → Prop} (it : ITold g M F L W) (s : Same g h) (hq : Q (some (.int (fmI (dpG g) F))) h) : AW d 271 0 [some (.ref 399), none, none] [] h Q := by
  have hM : M ≤ 6 := it.1
  have hM' : M ≤ 10 := by omega
  have hF : F ≤ 5 := it.2.1
  have hF' : F ≤ 10 := by omega
  have hL : L ≤ 30 := it.2.2.1
  have hW : W ≤ 20 := it.2.2.2.1
  obtain ⟨r1, r2, r3, r4, r5, r6, r7, r8⟩ := rd58 it s
  have ok := s.1
  simp (disch := omega) only [s271_0, s271_1, s271_2, s271_3, s271_5, s271_6, s271_9, s271_12, s271_13, s271_14, s271_17, s271_18, s271_21, s271_23, s271_24, s271_25, s271_26, s271_27, s271_30, s271_32, s271_33, s271_34, s271_35, s271_38, s271_39, s271_42, s271_43, s271_44, s271_47, s271_50, s271_51, true_or, or_true, or_false, false_or, or_self, Int32.reduceLT, Int32.reduceLE, Nat.add_zero, Nat.zero_add, Nat.not_lt_zero, not_false_eq_true, not_true_eq_false, and_assoc, kl_q, kl_i, kl_r, kl_n, kl_0, kl_l, cs_0, cs_i, cs_r, cs_n, cs_l, aRf_s, aRf_n, gi_wl, gi_wr, gl_wi, gl_wl, gl_wr, gr_wi, gr_wl, gr_wr, sh_wi, sh_wl, sh_wr, gl_cp, gr_cp, sh_cp, gl_rw, gr_rw, sh_rw, gi_rl, gr_rl, sh_rl, Option.toList_some, Option.toList_none, List.nil_append, List.cons_append, List.append_nil, Option.some.injEq, Prod.mk.injEq, and_true, true_and, and_self, if_true, if_false, reduceCtorEq, Nat.reduceLeDiff, Nat.reduceLT, Nat.reduceAdd, Nat.reduceEqDiff, false_and, and_false, exists_const, exists_eq_left, exists_eq_left', exists_and_left, and_assoc, nltL, nltR, nleL, nleR, neqL, neqR, naL, naR, nmL, nmR, nI_ltI, nI_leI, nI_eq, nI_add, nI_mul, nI_clamp, n0l, n0r, nm1, nm1', nm1l, nm1r, nm1g, nsL, nI_m1, Nat.add_sub_cancel, vpn, vpL, nclL, le32, leLL, leLN, leNL, leNN, inA, nb0, nb1, gi_wi_n, gi_wi_e, gi_rw_n, gi_rw_e, aWi_rw]
  refine aLoop F (fun k lv h' => lv = [some (.ref 399), some (.int (fmI (dpG g) k)), some (.int (nI k))] ∧ h' = h) ?_ ?_ 0 _ _ (Nat.zero_le _) ⟨rfl, rfl⟩
  · rintro k lv h' hk ⟨rfl, rfl⟩ hk2
    have e1 : ¬ F ≤ k := by omega
    have e2 : 24 + k < 214 := by omega
    have e3 : gi h' 416 (24 + k) = dpG g k := s.2 _ _ rfl
    have hk' := hk2 _ _ ⟨rfl, rfl⟩
    rw [fmI_s (by omega)] at hk'
    rw [s271_4]
    by_cases h0 : k = 0
    · subst h0
      rw [if_pos (Or.inl (show fmI (dpG g) 0 = -1 from rfl))] at hk'
      simp (disch := omega) only [s271_0, s271_1, s271_2, s271_3, s271_5, s271_6, s271_9, s271_12, s271_13, s271_14, s271_17, s271_18, s271_21, s271_23, s271_24, s271_25, s271_26, s271_27, s271_30, s271_32, s271_33, s271_34, s271_35, s271_38, s271_39, s271_42, s271_43, s271_44, s271_47, s271_50, s271_51, true_or, or_true, or_false, false_or, or_self, Int32.reduceLT, Int32.reduceLE, Nat.add_zero, Nat.zero_add, Nat.not_lt_zero, not_false_eq_true, not_true_eq_false, and_assoc, kl_q, kl_i, kl_r, kl_n, kl_0, kl_l, cs_0, cs_i, cs_r, cs_n, cs_l, aRf_s, aRf_n, gi_wl, gi_wr, gl_wi, gl_wl, gl_wr, gr_wi, gr_wl, gr_wr, sh_wi, sh_wl, sh_wr, gl_cp, gr_cp, sh_cp, gl_rw, gr_rw, sh_rw, gi_rl, gr_rl, sh_rl, Option.toList_some, Option.toList_none, List.nil_append, List.cons_append, List.append_nil, Option.some.injEq, Prod.mk.injEq, and_true, true_and, and_self, if_true, if_false, reduceCtorEq, Nat.reduceLeDiff, Nat.reduceLT, Nat.reduceAdd, Nat.reduceEqDiff, false_and, and_false, exists_const, exists_eq_left, exists_eq_left', exists_and_left, and_assoc, nltL, nltR, nleL, nleR, neqL, neqR, naL, naR, nmL, nmR, nI_ltI, nI_leI, nI_eq, nI_add, nI_mul, nI_clamp, n0l, n0r, nm1, nm1', nm1l, nm1r, nm1g, nsL, nI_m1, Nat.add_sub_cancel, vpn, vpL, nclL, le32, leLL, leLN, leNL, leNN, inA, nb0, nb1, gi_wi_n, gi_wi_e, gi_rw_n, gi_rw_e, aWi_rw, z399 ok, r4, e1, show fmI (dpG g) 0 = -1 from rfl]
      exact hk'
    · have e4 : fmI (dpG g) k = nI (fst (mxR (dpG g)) k) := by rw [fmI, if_neg h0]
      have e5 := fst_le (r := mxR (dpG g)) (n := k) (by omega)
      have e6 : gi h' 416 (24 + fst (mxR (dpG g)) k) = dpG g (fst (mxR (dpG g)) k) := s.2 _ _ rfl
      have e7 : 24 + fst (mxR (dpG g)) k < 214 := by omega
      have e8 : ¬ nI (fst (mxR (dpG g)) k) = -1 := fun q => (nm1 (by omega)).mp q
      rw [e4, cN, nI_clamp (by omega)] at hk'
      simp (disch := omega) only [s271_0, s271_1, s271_2, s271_3, s271_5, s271_6, s271_9, s271_12, s271_13, s271_14, s271_17, s271_18, s271_21, s271_23, s271_24, s271_25, s271_26, s271_27, s271_30, s271_32, s271_33, s271_34, s271_35, s271_38, s271_39, s271_42, s271_43, s271_44, s271_47, s271_50, s271_51, true_or, or_true, or_false, false_or, or_self, Int32.reduceLT, Int32.reduceLE, Nat.add_zero, Nat.zero_add, Nat.not_lt_zero, not_false_eq_true, not_true_eq_false, and_assoc, kl_q, kl_i, kl_r, kl_n, kl_0, kl_l, cs_0, cs_i, cs_r, cs_n, cs_l, aRf_s, aRf_n, gi_wl, gi_wr, gl_wi, gl_wl, gl_wr, gr_wi, gr_wl, gr_wr, sh_wi, sh_wl, sh_wr, gl_cp, gr_cp, sh_cp, gl_rw, gr_rw, sh_rw, gi_rl, gr_rl, sh_rl, Option.toList_some, Option.toList_none, List.nil_append, List.cons_append, List.append_nil, Option.some.injEq, Prod.mk.injEq, and_true, true_and, and_self, if_true, if_false, reduceCtorEq, Nat.reduceLeDiff, Nat.reduceLT, Nat.reduceAdd, Nat.reduceEqDiff, false_and, and_false, exists_const, exists_eq_left, exists_eq_left', exists_and_left, and_assoc, nltL, nltR, nleL, nleR, neqL, neqR, naL, naR, nmL, nmR, nI_ltI, nI_leI, nI_eq, nI_add, nI_mul, nI_clamp, n0l, n0r, nm1, nm1', nm1l, nm1r, nm1g, nsL, nI_m1, Nat.add_sub_cancel, vpn, vpL, nclL, le32, leLL, leLN, leNL, leNN, inA, nb0, nb1, gi_wi_n, gi_wi_e, gi_rw_n, gi_rw_e, aWi_rw, z399 ok, z416 ok, r399_27 ok, r4, e1, e2, e3, e4, e6, e7]
      by_cases hr : dpG g (fst (mxR (dpG g)) k) < dpG g k
      · rw [if_pos (Or.inr hr)] at hk'
        rw [if_neg (Int32.not_le.mpr hr)]
        exact hk'
      · rw [if_neg (fun q => q.elim e8 hr)] at hk'
        rw [if_pos (Int32.not_lt.mp hr)]
        exact hk'
  · rintro lv h' ⟨rfl, rfl⟩
    rw [s271_4]
    simp (disch := omega) only [s271_0, s271_1, s271_2, s271_3, s271_5, s271_6, s271_9, s271_12, s271_13, s271_14, s271_17, s271_18, s271_21, s271_23, s271_24, s271_25, s271_26, s271_27, s271_30, s271_32, s271_33, s271_34, s271_35, s271_38, s271_39, s271_42, s271_43, s271_44, s271_47, s271_50, s271_51, true_or, or_true, or_false, false_or, or_self, Int32.reduceLT, Int32.reduceLE, Nat.add_zero, Nat.zero_add, Nat.not_lt_zero, not_false_eq_true, not_true_eq_false, and_assoc, kl_q, kl_i, kl_r, kl_n, kl_0, kl_l, cs_0, cs_i, cs_r, cs_n, cs_l, aRf_s, aRf_n, gi_wl, gi_wr, gl_wi, gl_wl, gl_wr, gr_wi, gr_wl, gr_wr, sh_wi, sh_wl, sh_wr, gl_cp, gr_cp, sh_cp, gl_rw, gr_rw, sh_rw, gi_rl, gr_rl, sh_rl, Option.toList_some, Option.toList_none, List.nil_append, List.cons_append, List.append_nil, Option.some.injEq, Prod.mk.injEq, and_true, true_and, and_self, if_true, if_false, reduceCtorEq, Nat.reduceLeDiff, Nat.reduceLT, Nat.reduceAdd, Nat.reduceEqDiff, false_and, and_false, exists_const, exists_eq_left, exists_eq_left', exists_and_left, and_assoc, nltL, nltR, nleL, nleR, neqL, neqR, naL, naR, nmL, nmR, nI_ltI, nI_leI, nI_eq, nI_add, nI_mul, nI_clamp, n0l, n0r, nm1, nm1', nm1l, nm1r, nm1g, nsL, nI_m1, Nat.add_sub_cancel, vpn, vpL, nclL, le32, leLL, leLN, leNL, leNN, inA, nb0, nb1, gi_wi_n, gi_wi_e, gi_rw_n, gi_rw_e, aWi_rw, z399 ok, r4, Nat.le_refl]
    exact hq
end Q5
