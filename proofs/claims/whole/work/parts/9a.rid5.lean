-- deps: 99.rid4
/-! ===== rides as texts: the reference ===== -/
def RM (a k : Nat) : Prop := AtY a k ∨ (a = 399 ∧ (k = 20 ∨ k = 21)) ∨ (410 ≤ a ∧ a ≤ 412)
def RcM (h : aM) (B : Nat → Nat) (T p : Nat) (s : RS) : Prop := TpM h B T ∧ gi h 399 3 = nI p ∧ gi h 399 4 = -1 ∧ gi h 399 20 = nI s.2.2.1.length ∧ gi h 399 21 = nI s.2.2.2.length ∧ (∀ k, k < 5 → gi h 410 k = nI (s.2.1 k)) ∧ (∀ i, i < s.2.2.1.length → ∀ k, k < 4 → gi h 411 (4 * i + k) = nI (mf s.2.2.1 i k)) ∧ ∀ i, i < s.2.2.2.length → ∀ k, k < 2 → gi h 412 (2 * i + k) = nI (mf s.2.2.2 i k)
def PostF (B : Nat → Nat) (T : Nat) (Q : Option Value → aM → Prop) (r : Nat ⊕ RS) (h : aM) : Prop := match r with
  | .inl q => Q (some (.int (nI q))) h
  | .inr s => (∃ p, RcM h B T p s) → RsOk s → whP s → Q (some (.int (-1))) h
section D5
variable {B : Nat → Nat} {T p : Nat} {s : RS} {d : Nat} {h : aM} {Q : Option Value → aM → Prop}
theorem RcM.at {h' : aM} {p' : Nat} (rc : RcM h B T p s) (a : Ag (fun a k => a = 399 ∧ k = 3) h h') (e : gi h' 399 3 = nI p') : RcM h' B T p' s := by
  obtain ⟨r1, r2, r3, r4, r5, r6, r7, r8⟩ := rc
  refine ⟨r1.ag a (by omega) (by omega), e, by rw [a.2 _ _ (by omega), r3], by rw [a.2 _ _ (by omega), r4], by rw [a.2 _ _ (by omega), r5], fun k hk => ?_, fun i hi k hk => ?_, fun i hi k hk => ?_⟩
  · rw [a.2 _ _ (by omega)]
    exact r6 k hk
  · rw [a.2 _ _ (by omega)]
    exact r7 i hi k hk
  · rw [a.2 _ _ (by omega)]
    exact r8 i hi k hk
theorem bI_t : bI true = 1 := rfl
theorem bI_f : bI false = 0 := rfl
theorem m_isWhole (rc : RcM h B T p s) (so : RsOk s) (h1 : whP s → Q (some (.int 1)) h) (h2 : ¬ whP s → Q (some (.int 0)) h) : AW d 200 0 [some (.ref 399), none, none, none] [] h Q := by
  have ok := rc.1.1
  obtain ⟨l1, l2, -, o4, o5, o6⟩ := id so
  have r4 := rc.2.2.2.1
  have r5 := rc.2.2.2.2.1
  have r6 := rc.2.2.2.2.2.1 0 (by omega)
  have r7 := rc.2.2.2.2.2.2.1
  have r8 := rc.2.2.2.2.2.2.2
  have b0 : s.2.1 0 ≤ 30 := (o4 0 (by omega)).2
  have start : AW d 200 15 [some (.ref 399), some (.int (bI (decide (0 < s.2.2.1.length)))), some (.int 0), none] [] h Q := by
    refine aLoop s.2.2.1.length (fun j lv h' => ∃ b, lv = [some (.ref 399), some (.int (bI b)), some (.int (nI j)), none] ∧ h' = h ∧ (b = true ↔ 0 < s.2.2.1.length ∧ ∀ k, k < j → mf s.2.2.1 k 0 ≤ s.2.1 0)) ?_ ?_ 0 _ _ (Nat.zero_le _) ⟨_, rfl, rfl, by simp⟩
    · rintro j lv h' hj ⟨b, rfl, rfl, e⟩ hk'
      have v1 := r7 j hj 0 (by omega)
      rw [Nat.add_zero] at v1
      have b1 : mf s.2.2.1 j 0 ≤ 30 := o5 j hj 0 (by omega)
      have n1 : ¬ s.2.2.1.length ≤ j := by omega
      have j6 : 4 * j < 24 := by omega
      rw [s200_15]
      cases b with
      | false =>
        simp (disch := omega) only [s200_16, s200_17, s200_20, s200_23, s200_24, s200_27, s200_28, s200_31, s200_32, s200_33, s200_34, s200_35, s200_36, s200_37, s200_38, s200_41, s200_42, s200_43, s200_46, s200_47, s200_50, s200_51, s200_52, s200_55, true_or, or_true, or_false, false_or, or_self, Int32.reduceLT, Int32.reduceLE, Nat.add_zero, Nat.zero_add, Nat.not_lt_zero, not_false_eq_true, not_true_eq_false, and_assoc, kl_q, kl_i, kl_r, kl_n, kl_0, kl_l, cs_0, cs_i, cs_r, cs_n, cs_l, aRf_s, aRf_n, gi_wl, gi_wr, gl_wi, gl_wl, gl_wr, gr_wi, gr_wl, gr_wr, sh_wi, sh_wl, sh_wr, gl_cp, gr_cp, sh_cp, gl_rw, gr_rw, sh_rw, gi_rl, gr_rl, sh_rl, Option.toList_some, Option.toList_none, List.nil_append, List.cons_append, List.append_nil, Option.some.injEq, Prod.mk.injEq, and_true, true_and, and_self, if_true, if_false, reduceCtorEq, Nat.reduceLeDiff, Nat.reduceLT, Nat.reduceAdd, Nat.reduceEqDiff, false_and, and_false, exists_const, exists_eq_left, exists_eq_left', exists_and_left, and_assoc, nltL, nltR, nleL, nleR, neqL, neqR, naL, naR, nmL, nmR, nI_ltI, nI_leI, nI_eq, nI_add, nI_mul, nI_clamp, n0l, n0r, nm1, nm1', nm1l, nm1r, nm1g, nsL, nI_m1, Nat.add_sub_cancel, vpn, vpL, nclL, le32, leLL, leLN, leNL, leNN, inA, nb0, nb1, gi_wi_n, gi_wi_e, gi_rw_n, gi_rw_e, aWi_rw, ifl, ifl_, ifle, ifle_, ifq, ifq_, ifnq, ifnq_, ifnl, ifnl_, ifnle, ifnle_, z399 ok, n1, r4, bI_f]
        refine hk' _ _ ⟨false, rfl, rfl, ?_⟩
        constructor
        · intro z
          cases z
        · intro z
          exact e.mpr ⟨z.1, fun k hk => z.2 k (by omega)⟩
      | true =>
        obtain ⟨e1, e2⟩ := e.mp rfl
        by_cases he : mf s.2.2.1 j 0 ≤ s.2.1 0
        · have n2 : ¬ s.2.1 0 < mf s.2.2.1 j 0 := by omega
          simp (disch := omega) only [s200_16, s200_17, s200_20, s200_23, s200_24, s200_27, s200_28, s200_31, s200_32, s200_33, s200_34, s200_35, s200_36, s200_37, s200_38, s200_41, s200_42, s200_43, s200_46, s200_47, s200_50, s200_51, s200_52, s200_55, true_or, or_true, or_false, false_or, or_self, Int32.reduceLT, Int32.reduceLE, Nat.add_zero, Nat.zero_add, Nat.not_lt_zero, not_false_eq_true, not_true_eq_false, and_assoc, kl_q, kl_i, kl_r, kl_n, kl_0, kl_l, cs_0, cs_i, cs_r, cs_n, cs_l, aRf_s, aRf_n, gi_wl, gi_wr, gl_wi, gl_wl, gl_wr, gr_wi, gr_wl, gr_wr, sh_wi, sh_wl, sh_wr, gl_cp, gr_cp, sh_cp, gl_rw, gr_rw, sh_rw, gi_rl, gr_rl, sh_rl, Option.toList_some, Option.toList_none, List.nil_append, List.cons_append, List.append_nil, Option.some.injEq, Prod.mk.injEq, and_true, true_and, and_self, if_true, if_false, reduceCtorEq, Nat.reduceLeDiff, Nat.reduceLT, Nat.reduceAdd, Nat.reduceEqDiff, false_and, and_false, exists_const, exists_eq_left, exists_eq_left', exists_and_left, and_assoc, nltL, nltR, nleL, nleR, neqL, neqR, naL, naR, nmL, nmR, nI_ltI, nI_leI, nI_eq, nI_add, nI_mul, nI_clamp, n0l, n0r, nm1, nm1', nm1l, nm1r, nm1g, nsL, nI_m1, Nat.add_sub_cancel, vpn, vpL, nclL, le32, leLL, leLN, leNL, leNN, inA, nb0, nb1, gi_wi_n, gi_wi_e, gi_rw_n, gi_rw_e, aWi_rw, ifl, ifl_, ifle, ifle_, ifq, ifq_, ifnq, ifnq_, ifnl, ifnl_, ifnle, ifnle_, z399 ok, z410 ok, z411 ok, r399_17 ok, r399_18 ok, n1, j6, r4, r6, v1, n2, bI_t]
          refine hk' _ _ ⟨true, rfl, rfl, ?_⟩
          refine ⟨fun _ => ⟨e1, fun k hk => ?_⟩, fun _ => rfl⟩
          by_cases hkj : k = j
          · rw [hkj]
            exact he
          · exact e2 k (by omega)
        · have n2 : s.2.1 0 < mf s.2.2.1 j 0 := by omega
          simp (disch := omega) only [s200_16, s200_17, s200_20, s200_23, s200_24, s200_27, s200_28, s200_31, s200_32, s200_33, s200_34, s200_35, s200_36, s200_37, s200_38, s200_41, s200_42, s200_43, s200_46, s200_47, s200_50, s200_51, s200_52, s200_55, true_or, or_true, or_false, false_or, or_self, Int32.reduceLT, Int32.reduceLE, Nat.add_zero, Nat.zero_add, Nat.not_lt_zero, not_false_eq_true, not_true_eq_false, and_assoc, kl_q, kl_i, kl_r, kl_n, kl_0, kl_l, cs_0, cs_i, cs_r, cs_n, cs_l, aRf_s, aRf_n, gi_wl, gi_wr, gl_wi, gl_wl, gl_wr, gr_wi, gr_wl, gr_wr, sh_wi, sh_wl, sh_wr, gl_cp, gr_cp, sh_cp, gl_rw, gr_rw, sh_rw, gi_rl, gr_rl, sh_rl, Option.toList_some, Option.toList_none, List.nil_append, List.cons_append, List.append_nil, Option.some.injEq, Prod.mk.injEq, and_true, true_and, and_self, if_true, if_false, reduceCtorEq, Nat.reduceLeDiff, Nat.reduceLT, Nat.reduceAdd, Nat.reduceEqDiff, false_and, and_false, exists_const, exists_eq_left, exists_eq_left', exists_and_left, and_assoc, nltL, nltR, nleL, nleR, neqL, neqR, naL, naR, nmL, nmR, nI_ltI, nI_leI, nI_eq, nI_add, nI_mul, nI_clamp, n0l, n0r, nm1, nm1', nm1l, nm1r, nm1g, nsL, nI_m1, Nat.add_sub_cancel, vpn, vpL, nclL, le32, leLL, leLN, leNL, leNN, inA, nb0, nb1, gi_wi_n, gi_wi_e, gi_rw_n, gi_rw_e, aWi_rw, ifl, ifl_, ifle, ifle_, ifq, ifq_, ifnq, ifnq_, ifnl, ifnl_, ifnle, ifnle_, z399 ok, z410 ok, z411 ok, r399_17 ok, r399_18 ok, n1, j6, r4, r6, v1, n2, bI_t]
          refine hk' _ _ ⟨false, rfl, rfl, ?_⟩
          constructor
          · intro z
            cases z
          · intro z
            exact absurd (z.2 j (by omega)) he
    · rintro lv h' ⟨b, rfl, rfl, e⟩
      rw [s200_15]
      simp (disch := omega) only [s200_16, s200_17, s200_20, s200_23, s200_24, s200_27, s200_28, s200_31, s200_32, s200_33, s200_34, s200_35, s200_36, s200_37, s200_38, s200_41, s200_42, s200_43, s200_46, s200_47, s200_50, s200_51, s200_52, s200_55, s200_58, s200_59, true_or, or_true, or_false, false_or, or_self, Int32.reduceLT, Int32.reduceLE, Nat.add_zero, Nat.zero_add, Nat.not_lt_zero, not_false_eq_true, not_true_eq_false, and_assoc, kl_q, kl_i, kl_r, kl_n, kl_0, kl_l, cs_0, cs_i, cs_r, cs_n, cs_l, aRf_s, aRf_n, gi_wl, gi_wr, gl_wi, gl_wl, gl_wr, gr_wi, gr_wl, gr_wr, sh_wi, sh_wl, sh_wr, gl_cp, gr_cp, sh_cp, gl_rw, gr_rw, sh_rw, gi_rl, gr_rl, sh_rl, Option.toList_some, Option.toList_none, List.nil_append, List.cons_append, List.append_nil, Option.some.injEq, Prod.mk.injEq, and_true, true_and, and_self, if_true, if_false, reduceCtorEq, Nat.reduceLeDiff, Nat.reduceLT, Nat.reduceAdd, Nat.reduceEqDiff, false_and, and_false, exists_const, exists_eq_left, exists_eq_left', exists_and_left, and_assoc, nltL, nltR, nleL, nleR, neqL, neqR, naL, naR, nmL, nmR, nI_ltI, nI_leI, nI_eq, nI_add, nI_mul, nI_clamp, n0l, n0r, nm1, nm1', nm1l, nm1r, nm1g, nsL, nI_m1, Nat.add_sub_cancel, vpn, vpL, nclL, le32, leLL, leLN, leNL, leNN, inA, nb0, nb1, gi_wi_n, gi_wi_e, gi_rw_n, gi_rw_e, aWi_rw, ifl, ifl_, ifle, ifle_, ifq, ifq_, ifnq, ifnq_, ifnl, ifnl_, ifnle, ifnle_, z399 ok, r4, Nat.le_refl]
      refine aLoop s.2.2.2.length (fun j lv h2' => ∃ c x, lv = [some (.ref 399), some (.int (bI c)), some (.int (nI j)), x] ∧ h2' = h' ∧ (c = true ↔ b = true ∧ ∀ k, k < j → mf s.2.2.2 k 0 ≤ s.2.1 0 ∧ ∀ o, o < k → ¬ mf s.2.2.2 o 0 = mf s.2.2.2 k 0)) ?_ ?_ 0 _ _ (Nat.zero_le _) ⟨b, none, rfl, rfl, by simp⟩
      · rintro j lv h3' hj ⟨c, x, rfl, rfl, e2⟩ hk'
        have v1 := r8 j hj 0 (by omega)
        rw [Nat.add_zero] at v1
        have b1 : mf s.2.2.2 j 0 ≤ 30 := o6 j hj 0 (by omega)
        have n1 : ¬ s.2.2.2.length ≤ j := by omega
        have j5 : 2 * j < 10 := by omega
        have inner : ∀ c', (c' = true ↔ c = true ∧ mf s.2.2.2 j 0 ≤ s.2.1 0) → AW d 200 99 [some (.ref 399), some (.int (bI c')), some (.int (nI j)), some (.int 0)] [] h3' Q := by
          intro c' ec
          refine aLoop j (fun i lv h4' => ∃ g, lv = [some (.ref 399), some (.int (bI g)), some (.int (nI j)), some (.int (nI i))] ∧ h4' = h3' ∧ (g = true ↔ c' = true ∧ ∀ o, o < i → ¬ mf s.2.2.2 o 0 = mf s.2.2.2 j 0)) ?_ ?_ 0 _ _ (Nat.zero_le _) ⟨c', rfl, rfl, by simp⟩
          · rintro i lv h5' hi ⟨g, rfl, rfl, e3⟩ hk2
            have v2 := r8 i (by omega) 0 (by omega)
            rw [Nat.add_zero] at v2
            have b2 : mf s.2.2.2 i 0 ≤ 30 := o6 i (by omega) 0 (by omega)
            have n3 : ¬ j ≤ i := by omega
            have i5 : 2 * i < 10 := by omega
            rw [s200_99]
            cases g with
            | false =>
              simp (disch := omega) only [s200_100, s200_101, s200_104, s200_105, s200_108, s200_109, s200_112, s200_113, s200_114, s200_115, s200_116, s200_117, s200_118, s200_119, s200_122, s200_123, s200_124, s200_125, s200_126, s200_127, s200_128, s200_131, s200_132, s200_135, s200_136, s200_137, s200_140, true_or, or_true, or_false, false_or, or_self, Int32.reduceLT, Int32.reduceLE, Nat.add_zero, Nat.zero_add, Nat.not_lt_zero, not_false_eq_true, not_true_eq_false, and_assoc, kl_q, kl_i, kl_r, kl_n, kl_0, kl_l, cs_0, cs_i, cs_r, cs_n, cs_l, aRf_s, aRf_n, gi_wl, gi_wr, gl_wi, gl_wl, gl_wr, gr_wi, gr_wl, gr_wr, sh_wi, sh_wl, sh_wr, gl_cp, gr_cp, sh_cp, gl_rw, gr_rw, sh_rw, gi_rl, gr_rl, sh_rl, Option.toList_some, Option.toList_none, List.nil_append, List.cons_append, List.append_nil, Option.some.injEq, Prod.mk.injEq, and_true, true_and, and_self, if_true, if_false, reduceCtorEq, Nat.reduceLeDiff, Nat.reduceLT, Nat.reduceAdd, Nat.reduceEqDiff, false_and, and_false, exists_const, exists_eq_left, exists_eq_left', exists_and_left, and_assoc, nltL, nltR, nleL, nleR, neqL, neqR, naL, naR, nmL, nmR, nI_ltI, nI_leI, nI_eq, nI_add, nI_mul, nI_clamp, n0l, n0r, nm1, nm1', nm1l, nm1r, nm1g, nsL, nI_m1, Nat.add_sub_cancel, vpn, vpL, nclL, le32, leLL, leLN, leNL, leNN, inA, nb0, nb1, gi_wi_n, gi_wi_e, gi_rw_n, gi_rw_e, aWi_rw, ifl, ifl_, ifle, ifle_, ifq, ifq_, ifnq, ifnq_, ifnl, ifnl_, ifnle, ifnle_, n3, bI_f]
              refine hk2 _ _ ⟨false, rfl, rfl, ?_⟩
              constructor
              · intro z
                cases z
              · intro z
                exact e3.mpr ⟨z.1, fun k hk => z.2 k (by omega)⟩
            | true =>
              obtain ⟨e31, e32⟩ := e3.mp rfl
              by_cases he : mf s.2.2.2 i 0 = mf s.2.2.2 j 0
              · simp (disch := omega) only [s200_100, s200_101, s200_104, s200_105, s200_108, s200_109, s200_112, s200_113, s200_114, s200_115, s200_116, s200_117, s200_118, s200_119, s200_122, s200_123, s200_124, s200_125, s200_126, s200_127, s200_128, s200_131, s200_132, s200_135, s200_136, s200_137, s200_140, true_or, or_true, or_false, false_or, or_self, Int32.reduceLT, Int32.reduceLE, Nat.add_zero, Nat.zero_add, Nat.not_lt_zero, not_false_eq_true, not_true_eq_false, and_assoc, kl_q, kl_i, kl_r, kl_n, kl_0, kl_l, cs_0, cs_i, cs_r, cs_n, cs_l, aRf_s, aRf_n, gi_wl, gi_wr, gl_wi, gl_wl, gl_wr, gr_wi, gr_wl, gr_wr, sh_wi, sh_wl, sh_wr, gl_cp, gr_cp, sh_cp, gl_rw, gr_rw, sh_rw, gi_rl, gr_rl, sh_rl, Option.toList_some, Option.toList_none, List.nil_append, List.cons_append, List.append_nil, Option.some.injEq, Prod.mk.injEq, and_true, true_and, and_self, if_true, if_false, reduceCtorEq, Nat.reduceLeDiff, Nat.reduceLT, Nat.reduceAdd, Nat.reduceEqDiff, false_and, and_false, exists_const, exists_eq_left, exists_eq_left', exists_and_left, and_assoc, nltL, nltR, nleL, nleR, neqL, neqR, naL, naR, nmL, nmR, nI_ltI, nI_leI, nI_eq, nI_add, nI_mul, nI_clamp, n0l, n0r, nm1, nm1', nm1l, nm1r, nm1g, nsL, nI_m1, Nat.add_sub_cancel, vpn, vpL, nclL, le32, leLL, leLN, leNL, leNN, inA, nb0, nb1, gi_wi_n, gi_wi_e, gi_rw_n, gi_rw_e, aWi_rw, ifl, ifl_, ifle, ifle_, ifq, ifq_, ifnq, ifnq_, ifnl, ifnl_, ifnle, ifnle_, z399 ok, z412 ok, r399_19 ok, n3, i5, j5, v1, v2, he, bI_t]
                refine hk2 _ _ ⟨false, rfl, rfl, ?_⟩
                constructor
                · intro z
                  cases z
                · intro z
                  exact absurd he (z.2 i (by omega))
              · simp (disch := omega) only [s200_100, s200_101, s200_104, s200_105, s200_108, s200_109, s200_112, s200_113, s200_114, s200_115, s200_116, s200_117, s200_118, s200_119, s200_122, s200_123, s200_124, s200_125, s200_126, s200_127, s200_128, s200_131, s200_132, s200_135, s200_136, s200_137, s200_140, true_or, or_true, or_false, false_or, or_self, Int32.reduceLT, Int32.reduceLE, Nat.add_zero, Nat.zero_add, Nat.not_lt_zero, not_false_eq_true, not_true_eq_false, and_assoc, kl_q, kl_i, kl_r, kl_n, kl_0, kl_l, cs_0, cs_i, cs_r, cs_n, cs_l, aRf_s, aRf_n, gi_wl, gi_wr, gl_wi, gl_wl, gl_wr, gr_wi, gr_wl, gr_wr, sh_wi, sh_wl, sh_wr, gl_cp, gr_cp, sh_cp, gl_rw, gr_rw, sh_rw, gi_rl, gr_rl, sh_rl, Option.toList_some, Option.toList_none, List.nil_append, List.cons_append, List.append_nil, Option.some.injEq, Prod.mk.injEq, and_true, true_and, and_self, if_true, if_false, reduceCtorEq, Nat.reduceLeDiff, Nat.reduceLT, Nat.reduceAdd, Nat.reduceEqDiff, false_and, and_false, exists_const, exists_eq_left, exists_eq_left', exists_and_left, and_assoc, nltL, nltR, nleL, nleR, neqL, neqR, naL, naR, nmL, nmR, nI_ltI, nI_leI, nI_eq, nI_add, nI_mul, nI_clamp, n0l, n0r, nm1, nm1', nm1l, nm1r, nm1g, nsL, nI_m1, Nat.add_sub_cancel, vpn, vpL, nclL, le32, leLL, leLN, leNL, leNN, inA, nb0, nb1, gi_wi_n, gi_wi_e, gi_rw_n, gi_rw_e, aWi_rw, ifl, ifl_, ifle, ifle_, ifq, ifq_, ifnq, ifnq_, ifnl, ifnl_, ifnle, ifnle_, z399 ok, z412 ok, r399_19 ok, n3, i5, j5, v1, v2, he, bI_t]
                refine hk2 _ _ ⟨true, rfl, rfl, ?_⟩
                refine ⟨fun _ => ⟨e31, fun k hk => ?_⟩, fun _ => rfl⟩
                by_cases hkj : k = i
                · rw [hkj]
                  exact he
                · exact e32 k (by omega)
          · rintro lv h5' ⟨g, rfl, rfl, e3⟩
            rw [s200_99]
            simp (disch := omega) only [s200_100, s200_101, s200_104, s200_105, s200_108, s200_109, s200_112, s200_113, s200_114, s200_115, s200_116, s200_117, s200_118, s200_119, s200_122, s200_123, s200_124, s200_125, s200_126, s200_127, s200_128, s200_131, s200_132, s200_135, s200_136, s200_137, s200_140, s200_143, s200_146, true_or, or_true, or_false, false_or, or_self, Int32.reduceLT, Int32.reduceLE, Nat.add_zero, Nat.zero_add, Nat.not_lt_zero, not_false_eq_true, not_true_eq_false, and_assoc, kl_q, kl_i, kl_r, kl_n, kl_0, kl_l, cs_0, cs_i, cs_r, cs_n, cs_l, aRf_s, aRf_n, gi_wl, gi_wr, gl_wi, gl_wl, gl_wr, gr_wi, gr_wl, gr_wr, sh_wi, sh_wl, sh_wr, gl_cp, gr_cp, sh_cp, gl_rw, gr_rw, sh_rw, gi_rl, gr_rl, sh_rl, Option.toList_some, Option.toList_none, List.nil_append, List.cons_append, List.append_nil, Option.some.injEq, Prod.mk.injEq, and_true, true_and, and_self, if_true, if_false, reduceCtorEq, Nat.reduceLeDiff, Nat.reduceLT, Nat.reduceAdd, Nat.reduceEqDiff, false_and, and_false, exists_const, exists_eq_left, exists_eq_left', exists_and_left, and_assoc, nltL, nltR, nleL, nleR, neqL, neqR, naL, naR, nmL, nmR, nI_ltI, nI_leI, nI_eq, nI_add, nI_mul, nI_clamp, n0l, n0r, nm1, nm1', nm1l, nm1r, nm1g, nsL, nI_m1, Nat.add_sub_cancel, vpn, vpL, nclL, le32, leLL, leLN, leNL, leNN, inA, nb0, nb1, gi_wi_n, gi_wi_e, gi_rw_n, gi_rw_e, aWi_rw, ifl, ifl_, ifle, ifle_, ifq, ifq_, ifnq, ifnq_, ifnl, ifnl_, ifnle, ifnle_, Nat.le_refl]
            refine hk' _ _ ⟨g, _, rfl, rfl, ?_⟩
            constructor
            · intro z
              obtain ⟨z1, z2⟩ := e3.mp z
              obtain ⟨z3, z4⟩ := ec.mp z1
              obtain ⟨z5, z6⟩ := e2.mp z3
              refine ⟨z5, fun k hk => ?_⟩
              by_cases hkj : k = j
              · rw [hkj]
                exact ⟨z4, z2⟩
              · exact z6 k (by omega)
            · rintro ⟨z1, z2⟩
              exact e3.mpr ⟨ec.mpr ⟨e2.mpr ⟨z1, fun k hk => z2 k (by omega)⟩, (z2 j (by omega)).1⟩, (z2 j (by omega)).2⟩
        rw [s200_60]
        cases c with
        | false =>
          have t := inner false ⟨fun z => (by cases z), fun z => z.1⟩
          rw [bI_f] at t
          simp (disch := omega) only [s200_61, s200_62, s200_65, s200_68, s200_69, s200_72, s200_73, s200_76, s200_77, s200_78, s200_79, s200_80, s200_81, s200_82, s200_83, s200_86, s200_87, s200_88, s200_91, s200_92, s200_95, s200_96, s200_97, s200_98, true_or, or_true, or_false, false_or, or_self, Int32.reduceLT, Int32.reduceLE, Nat.add_zero, Nat.zero_add, Nat.not_lt_zero, not_false_eq_true, not_true_eq_false, and_assoc, kl_q, kl_i, kl_r, kl_n, kl_0, kl_l, cs_0, cs_i, cs_r, cs_n, cs_l, aRf_s, aRf_n, gi_wl, gi_wr, gl_wi, gl_wl, gl_wr, gr_wi, gr_wl, gr_wr, sh_wi, sh_wl, sh_wr, gl_cp, gr_cp, sh_cp, gl_rw, gr_rw, sh_rw, gi_rl, gr_rl, sh_rl, Option.toList_some, Option.toList_none, List.nil_append, List.cons_append, List.append_nil, Option.some.injEq, Prod.mk.injEq, and_true, true_and, and_self, if_true, if_false, reduceCtorEq, Nat.reduceLeDiff, Nat.reduceLT, Nat.reduceAdd, Nat.reduceEqDiff, false_and, and_false, exists_const, exists_eq_left, exists_eq_left', exists_and_left, and_assoc, nltL, nltR, nleL, nleR, neqL, neqR, naL, naR, nmL, nmR, nI_ltI, nI_leI, nI_eq, nI_add, nI_mul, nI_clamp, n0l, n0r, nm1, nm1', nm1l, nm1r, nm1g, nsL, nI_m1, Nat.add_sub_cancel, vpn, vpL, nclL, le32, leLL, leLN, leNL, leNN, inA, nb0, nb1, gi_wi_n, gi_wi_e, gi_rw_n, gi_rw_e, aWi_rw, ifl, ifl_, ifle, ifle_, ifq, ifq_, ifnq, ifnq_, ifnl, ifnl_, ifnle, ifnle_, z399 ok, n1, r5, bI_f]
          exact t
        | true =>
          by_cases he : mf s.2.2.2 j 0 ≤ s.2.1 0
          · have n2 : ¬ s.2.1 0 < mf s.2.2.2 j 0 := by omega
            have t := inner true ⟨fun _ => ⟨rfl, he⟩, fun _ => rfl⟩
            rw [bI_t] at t
            simp (disch := omega) only [s200_61, s200_62, s200_65, s200_68, s200_69, s200_72, s200_73, s200_76, s200_77, s200_78, s200_79, s200_80, s200_81, s200_82, s200_83, s200_86, s200_87, s200_88, s200_91, s200_92, s200_95, s200_96, s200_97, s200_98, true_or, or_true, or_false, false_or, or_self, Int32.reduceLT, Int32.reduceLE, Nat.add_zero, Nat.zero_add, Nat.not_lt_zero, not_false_eq_true, not_true_eq_false, and_assoc, kl_q, kl_i, kl_r, kl_n, kl_0, kl_l, cs_0, cs_i, cs_r, cs_n, cs_l, aRf_s, aRf_n, gi_wl, gi_wr, gl_wi, gl_wl, gl_wr, gr_wi, gr_wl, gr_wr, sh_wi, sh_wl, sh_wr, gl_cp, gr_cp, sh_cp, gl_rw, gr_rw, sh_rw, gi_rl, gr_rl, sh_rl, Option.toList_some, Option.toList_none, List.nil_append, List.cons_append, List.append_nil, Option.some.injEq, Prod.mk.injEq, and_true, true_and, and_self, if_true, if_false, reduceCtorEq, Nat.reduceLeDiff, Nat.reduceLT, Nat.reduceAdd, Nat.reduceEqDiff, false_and, and_false, exists_const, exists_eq_left, exists_eq_left', exists_and_left, and_assoc, nltL, nltR, nleL, nleR, neqL, neqR, naL, naR, nmL, nmR, nI_ltI, nI_leI, nI_eq, nI_add, nI_mul, nI_clamp, n0l, n0r, nm1, nm1', nm1l, nm1r, nm1g, nsL, nI_m1, Nat.add_sub_cancel, vpn, vpL, nclL, le32, leLL, leLN, leNL, leNN, inA, nb0, nb1, gi_wi_n, gi_wi_e, gi_rw_n, gi_rw_e, aWi_rw, ifl, ifl_, ifle, ifle_, ifq, ifq_, ifnq, ifnq_, ifnl, ifnl_, ifnle, ifnle_, z399 ok, z410 ok, z412 ok, r399_17 ok, r399_19 ok, n1, j5, r5, r6, v1, n2, bI_t]
            exact t
          · have n2 : s.2.1 0 < mf s.2.2.2 j 0 := by omega
            have t := inner false ⟨fun z => (by cases z), fun z => absurd z.2 he⟩
            rw [bI_f] at t
            simp (disch := omega) only [s200_61, s200_62, s200_65, s200_68, s200_69, s200_72, s200_73, s200_76, s200_77, s200_78, s200_79, s200_80, s200_81, s200_82, s200_83, s200_86, s200_87, s200_88, s200_91, s200_92, s200_95, s200_96, s200_97, s200_98, true_or, or_true, or_false, false_or, or_self, Int32.reduceLT, Int32.reduceLE, Nat.add_zero, Nat.zero_add, Nat.not_lt_zero, not_false_eq_true, not_true_eq_false, and_assoc, kl_q, kl_i, kl_r, kl_n, kl_0, kl_l, cs_0, cs_i, cs_r, cs_n, cs_l, aRf_s, aRf_n, gi_wl, gi_wr, gl_wi, gl_wl, gl_wr, gr_wi, gr_wl, gr_wr, sh_wi, sh_wl, sh_wr, gl_cp, gr_cp, sh_cp, gl_rw, gr_rw, sh_rw, gi_rl, gr_rl, sh_rl, Option.toList_some, Option.toList_none, List.nil_append, List.cons_append, List.append_nil, Option.some.injEq, Prod.mk.injEq, and_true, true_and, and_self, if_true, if_false, reduceCtorEq, Nat.reduceLeDiff, Nat.reduceLT, Nat.reduceAdd, Nat.reduceEqDiff, false_and, and_false, exists_const, exists_eq_left, exists_eq_left', exists_and_left, and_assoc, nltL, nltR, nleL, nleR, neqL, neqR, naL, naR, nmL, nmR, nI_ltI, nI_leI, nI_eq, nI_add, nI_mul, nI_clamp, n0l, n0r, nm1, nm1', nm1l, nm1r, nm1g, nsL, nI_m1, Nat.add_sub_cancel, vpn, vpL, nclL, le32, leLL, leLN, leNL, leNN, inA, nb0, nb1, gi_wi_n, gi_wi_e, gi_rw_n, gi_rw_e, aWi_rw, ifl, ifl_, ifle, ifle_, ifq, ifq_, ifnq, ifnq_, ifnl, ifnl_, ifnle, ifnle_, z399 ok, z410 ok, z412 ok, r399_17 ok, r399_19 ok, n1, j5, r5, r6, v1, n2, bI_t]
            exact t
      · rintro lv h3' ⟨c, x, rfl, rfl, e2⟩
        rw [s200_60]
        have iff1 : c = true ↔ whP s := by
          rw [e2, e]
          unfold whP
          exact and_assoc
        cases c with
        | false =>
          simp (disch := omega) only [s200_61, s200_62, s200_65, s200_68, s200_69, s200_72, s200_73, s200_76, s200_77, s200_78, s200_79, s200_80, s200_81, s200_82, s200_83, s200_86, s200_87, s200_88, s200_91, s200_92, s200_95, s200_96, s200_97, s200_98, s200_100, s200_101, s200_104, s200_105, s200_108, s200_109, s200_112, s200_113, s200_114, s200_115, s200_116, s200_117, s200_118, s200_119, s200_122, s200_123, s200_124, s200_125, s200_126, s200_127, s200_128, s200_131, s200_132, s200_135, s200_136, s200_137, s200_140, s200_143, s200_146, s200_149, s200_150, true_or, or_true, or_false, false_or, or_self, Int32.reduceLT, Int32.reduceLE, Nat.add_zero, Nat.zero_add, Nat.not_lt_zero, not_false_eq_true, not_true_eq_false, and_assoc, kl_q, kl_i, kl_r, kl_n, kl_0, kl_l, cs_0, cs_i, cs_r, cs_n, cs_l, aRf_s, aRf_n, gi_wl, gi_wr, gl_wi, gl_wl, gl_wr, gr_wi, gr_wl, gr_wr, sh_wi, sh_wl, sh_wr, gl_cp, gr_cp, sh_cp, gl_rw, gr_rw, sh_rw, gi_rl, gr_rl, sh_rl, Option.toList_some, Option.toList_none, List.nil_append, List.cons_append, List.append_nil, Option.some.injEq, Prod.mk.injEq, and_true, true_and, and_self, if_true, if_false, reduceCtorEq, Nat.reduceLeDiff, Nat.reduceLT, Nat.reduceAdd, Nat.reduceEqDiff, false_and, and_false, exists_const, exists_eq_left, exists_eq_left', exists_and_left, and_assoc, nltL, nltR, nleL, nleR, neqL, neqR, naL, naR, nmL, nmR, nI_ltI, nI_leI, nI_eq, nI_add, nI_mul, nI_clamp, n0l, n0r, nm1, nm1', nm1l, nm1r, nm1g, nsL, nI_m1, Nat.add_sub_cancel, vpn, vpL, nclL, le32, leLL, leLN, leNL, leNN, inA, nb0, nb1, gi_wi_n, gi_wi_e, gi_rw_n, gi_rw_e, aWi_rw, ifl, ifl_, ifle, ifle_, ifq, ifq_, ifnq, ifnq_, ifnl, ifnl_, ifnle, ifnle_, z399 ok, r5, Nat.le_refl, bI_f]
          exact h2 (fun z => by have := iff1.mpr z; cases this)
        | true =>
          simp (disch := omega) only [s200_61, s200_62, s200_65, s200_68, s200_69, s200_72, s200_73, s200_76, s200_77, s200_78, s200_79, s200_80, s200_81, s200_82, s200_83, s200_86, s200_87, s200_88, s200_91, s200_92, s200_95, s200_96, s200_97, s200_98, s200_100, s200_101, s200_104, s200_105, s200_108, s200_109, s200_112, s200_113, s200_114, s200_115, s200_116, s200_117, s200_118, s200_119, s200_122, s200_123, s200_124, s200_125, s200_126, s200_127, s200_128, s200_131, s200_132, s200_135, s200_136, s200_137, s200_140, s200_143, s200_146, s200_149, s200_150, true_or, or_true, or_false, false_or, or_self, Int32.reduceLT, Int32.reduceLE, Nat.add_zero, Nat.zero_add, Nat.not_lt_zero, not_false_eq_true, not_true_eq_false, and_assoc, kl_q, kl_i, kl_r, kl_n, kl_0, kl_l, cs_0, cs_i, cs_r, cs_n, cs_l, aRf_s, aRf_n, gi_wl, gi_wr, gl_wi, gl_wl, gl_wr, gr_wi, gr_wl, gr_wr, sh_wi, sh_wl, sh_wr, gl_cp, gr_cp, sh_cp, gl_rw, gr_rw, sh_rw, gi_rl, gr_rl, sh_rl, Option.toList_some, Option.toList_none, List.nil_append, List.cons_append, List.append_nil, Option.some.injEq, Prod.mk.injEq, and_true, true_and, and_self, if_true, if_false, reduceCtorEq, Nat.reduceLeDiff, Nat.reduceLT, Nat.reduceAdd, Nat.reduceEqDiff, false_and, and_false, exists_const, exists_eq_left, exists_eq_left', exists_and_left, and_assoc, nltL, nltR, nleL, nleR, neqL, neqR, naL, naR, nmL, nmR, nI_ltI, nI_leI, nI_eq, nI_add, nI_mul, nI_clamp, n0l, n0r, nm1, nm1', nm1l, nm1r, nm1g, nsL, nI_m1, Nat.add_sub_cancel, vpn, vpL, nclL, le32, leLL, leLN, leNL, leNN, inA, nb0, nb1, gi_wi_n, gi_wi_e, gi_rw_n, gi_rw_e, aWi_rw, ifl, ifl_, ifle, ifle_, ifq, ifq_, ifnq, ifnq_, ifnl, ifnl_, ifnle, ifnle_, z399 ok, r5, Nat.le_refl, bI_t]
          exact h1 (iff1.mp rfl)
  by_cases hm : s.2.2.1.length = 0
  · rw [hm] at start r4
    simp (disch := omega) only [s200_0, s200_1, s200_4, s200_7, s200_8, s200_11, s200_12, s200_13, s200_14, true_or, or_true, or_false, false_or, or_self, Int32.reduceLT, Int32.reduceLE, Nat.add_zero, Nat.zero_add, Nat.not_lt_zero, not_false_eq_true, not_true_eq_false, and_assoc, kl_q, kl_i, kl_r, kl_n, kl_0, kl_l, cs_0, cs_i, cs_r, cs_n, cs_l, aRf_s, aRf_n, gi_wl, gi_wr, gl_wi, gl_wl, gl_wr, gr_wi, gr_wl, gr_wr, sh_wi, sh_wl, sh_wr, gl_cp, gr_cp, sh_cp, gl_rw, gr_rw, sh_rw, gi_rl, gr_rl, sh_rl, Option.toList_some, Option.toList_none, List.nil_append, List.cons_append, List.append_nil, Option.some.injEq, Prod.mk.injEq, and_true, true_and, and_self, if_true, if_false, reduceCtorEq, Nat.reduceLeDiff, Nat.reduceLT, Nat.reduceAdd, Nat.reduceEqDiff, false_and, and_false, exists_const, exists_eq_left, exists_eq_left', exists_and_left, and_assoc, nltL, nltR, nleL, nleR, neqL, neqR, naL, naR, nmL, nmR, nI_ltI, nI_leI, nI_eq, nI_add, nI_mul, nI_clamp, n0l, n0r, nm1, nm1', nm1l, nm1r, nm1g, nsL, nI_m1, Nat.add_sub_cancel, vpn, vpL, nclL, le32, leLL, leLN, leNL, leNN, inA, nb0, nb1, gi_wi_n, gi_wi_e, gi_rw_n, gi_rw_e, aWi_rw, ifl, ifl_, ifle, ifle_, ifq, ifq_, ifnq, ifnq_, ifnl, ifnl_, ifnle, ifnle_, z399 ok, r4, show nI 0 = (0 : Int32) from rfl, Int32.le_refl]
    exact start
  · have e : decide (0 < s.2.2.1.length) = true := decide_eq_true (by omega)
    rw [e] at start
    have n3 : ¬ s.2.2.1.length ≤ 0 := by omega
    simp (disch := omega) only [s200_0, s200_1, s200_4, s200_7, s200_8, s200_11, s200_12, s200_13, s200_14, true_or, or_true, or_false, false_or, or_self, Int32.reduceLT, Int32.reduceLE, Nat.add_zero, Nat.zero_add, Nat.not_lt_zero, not_false_eq_true, not_true_eq_false, and_assoc, kl_q, kl_i, kl_r, kl_n, kl_0, kl_l, cs_0, cs_i, cs_r, cs_n, cs_l, aRf_s, aRf_n, gi_wl, gi_wr, gl_wi, gl_wl, gl_wr, gr_wi, gr_wl, gr_wr, sh_wi, sh_wl, sh_wr, gl_cp, gr_cp, sh_cp, gl_rw, gr_rw, sh_rw, gi_rl, gr_rl, sh_rl, Option.toList_some, Option.toList_none, List.nil_append, List.cons_append, List.append_nil, Option.some.injEq, Prod.mk.injEq, and_true, true_and, and_self, if_true, if_false, reduceCtorEq, Nat.reduceLeDiff, Nat.reduceLT, Nat.reduceAdd, Nat.reduceEqDiff, false_and, and_false, exists_const, exists_eq_left, exists_eq_left', exists_and_left, and_assoc, nltL, nltR, nleL, nleR, neqL, neqR, naL, naR, nmL, nmR, nI_ltI, nI_leI, nI_eq, nI_add, nI_mul, nI_clamp, n0l, n0r, nm1, nm1', nm1l, nm1r, nm1g, nsL, nI_m1, Nat.add_sub_cancel, vpn, vpL, nclL, le32, leLL, leLN, leNL, leNN, inA, nb0, nb1, gi_wi_n, gi_wi_e, gi_rw_n, gi_rw_e, aWi_rw, ifl, ifl_, ifle, ifle_, ifq, ifq_, ifnq, ifnq_, ifnl, ifnl_, ifnle, ifnle_, z399 ok, r4, n3]
    exact start
end D5
