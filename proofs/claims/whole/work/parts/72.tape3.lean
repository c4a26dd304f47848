-- deps: 71.tape2
section T3
variable {d : Nat} {g h : aM} {Q : Option Value → aM → Prop} {B : Nat → Nat} {T p q n : Nat}
theorem m_here (tc : TpM h B T) (hp : p < 2 ^ 30) (e2 : gi h 399 3 = nI p) : AW d 168 0 [some (.ref 399)] [] h Q ↔ Q (some (.int (lkI B T p))) h := by
  have ok := tc.1
  have hT := tc.2.1
  unfold lkI
  by_cases h1 : p < T
  · have e6 := tc.2.2.2.1 _ h1
    have i1 : p < 240 := by omega
    simp (disch := omega) only [s168_0, s168_1, s168_4, s168_5, s168_8, s168_11, s168_12, s168_15, s168_16, s168_19, s168_20, s168_23, s168_24, true_or, or_true, or_false, false_or, or_self, Int32.reduceLT, Int32.reduceLE, Nat.add_zero, Nat.zero_add, Nat.not_lt_zero, not_false_eq_true, not_true_eq_false, and_assoc, kl_q, kl_i, kl_r, kl_n, kl_0, kl_l, cs_0, cs_i, cs_r, cs_n, cs_l, aRf_s, aRf_n, gi_wl, gi_wr, gl_wi, gl_wl, gl_wr, gr_wi, gr_wl, gr_wr, sh_wi, sh_wl, sh_wr, gl_cp, gr_cp, sh_cp, gl_rw, gr_rw, sh_rw, gi_rl, gr_rl, sh_rl, Option.toList_some, Option.toList_none, List.nil_append, List.cons_append, List.append_nil, Option.some.injEq, Prod.mk.injEq, and_true, true_and, and_self, if_true, if_false, reduceCtorEq, Nat.reduceLeDiff, Nat.reduceLT, Nat.reduceAdd, Nat.reduceEqDiff, false_and, and_false, exists_const, exists_eq_left, exists_eq_left', exists_and_left, and_assoc, nltL, nltR, nleL, nleR, neqL, neqR, naL, naR, nmL, nmR, nI_ltI, nI_leI, nI_eq, nI_add, nI_mul, nI_clamp, n0l, n0r, nm1, nm1', nm1l, nm1r, nm1g, nsL, nI_m1, Nat.add_sub_cancel, vpn, vpL, nclL, le32, leLL, leLN, leNL, leNN, inA, nb0, nb1, gi_wi_n, gi_wi_e, gi_rw_n, gi_rw_e, aWi_rw, ifl, ifl_, ifle, ifle_, ifq, ifq_, ifnq, ifnq_, ifnl, ifnl_, ifnle, ifnle_, z399 ok, z400 ok, r399_1 ok, e2, tc.2.2.1, e6, i1, h1]
  · simp (disch := omega) only [s168_0, s168_1, s168_4, s168_5, s168_8, s168_11, s168_12, s168_15, s168_16, s168_19, s168_20, s168_23, s168_24, true_or, or_true, or_false, false_or, or_self, Int32.reduceLT, Int32.reduceLE, Nat.add_zero, Nat.zero_add, Nat.not_lt_zero, not_false_eq_true, not_true_eq_false, and_assoc, kl_q, kl_i, kl_r, kl_n, kl_0, kl_l, cs_0, cs_i, cs_r, cs_n, cs_l, aRf_s, aRf_n, gi_wl, gi_wr, gl_wi, gl_wl, gl_wr, gr_wi, gr_wl, gr_wr, sh_wi, sh_wl, sh_wr, gl_cp, gr_cp, sh_cp, gl_rw, gr_rw, sh_rw, gi_rl, gr_rl, sh_rl, Option.toList_some, Option.toList_none, List.nil_append, List.cons_append, List.append_nil, Option.some.injEq, Prod.mk.injEq, and_true, true_and, and_self, if_true, if_false, reduceCtorEq, Nat.reduceLeDiff, Nat.reduceLT, Nat.reduceAdd, Nat.reduceEqDiff, false_and, and_false, exists_const, exists_eq_left, exists_eq_left', exists_and_left, and_assoc, nltL, nltR, nleL, nleR, neqL, neqR, naL, naR, nmL, nmR, nI_ltI, nI_leI, nI_eq, nI_add, nI_mul, nI_clamp, n0l, n0r, nm1, nm1', nm1l, nm1r, nm1g, nsL, nI_m1, Nat.add_sub_cancel, vpn, vpL, nclL, le32, leLL, leLN, leNL, leNN, inA, nb0, nb1, gi_wi_n, gi_wi_e, gi_rw_n, gi_rw_e, aWi_rw, ifl, ifl_, ifle, ifle_, ifq, ifq_, ifnq, ifnq_, ifnl, ifnl_, ifnle, ifnle_, z399 ok, z400 ok, r399_1 ok, e2, tc.2.2.1, h1]
theorem lk32 (hb : ∀ i, i < T → B i < 256) : lkI B T p = 32 ↔ p < T ∧ B p = 32 := by
  unfold lkI
  by_cases h1 : p < T
  · have := hb p h1
    rw [if_pos h1]
    constructor
    · intro q
      exact ⟨h1, (nI_eq (b := 32) (by omega) (by omega)).mp q⟩
    · intro q
      rw [q.2]
      rfl
  · rw [if_neg h1]
    constructor
    · intro q
      exact absurd q (by decide)
    · intro q
      exact absurd q.1 h1
theorem m_lookM (tc : TpM h B T) (hp : p ≤ T) (e2 : gi h 399 3 = nI p) (hq : ∀ h', Ag (fun a k => a = 399 ∧ k = 3) h h' → gi h' 399 3 = nI (sk B T p) → Q (some (.int (lkI B T (sk B T p)))) h') : AW (d + 1) 169 0 [some (.ref 399)] [] h Q := by
  have hT := tc.2.1
  refine aLoop (sk B T p - p) (fun j lv h' => lv = [some (.ref 399)] ∧ Ag (fun a k => a = 399 ∧ k = 3) h h' ∧ gi h' 399 3 = nI (p + j) ∧ p + j ≤ T ∧ sk B T (p + j) = sk B T p) ?_ ?_ 0 _ _ (Nat.zero_le _) ⟨rfl, Ag.refl tc.1, e2, hp, rfl⟩
  · rintro j lv h' hj ⟨rfl, a1, e3, hj2, e5⟩ hk
    have tc' := tc.ag a1 (by omega) (by omega)
    have ok := a1.1
    have hb : p + j < T ∧ B (p + j) = 32 := by
      apply Decidable.byContradiction
      intro q
      rw [sk_i q] at e5
      omega
    have e6 := (lk32 tc.2.2.2.2).mpr hb
    rw [s169_0]
    simp (disch := omega) only [s169_1, s169_4, s169_6, s169_9, s169_10, s169_10i, s169_11, s169_14, s169_15, s169_16, s169_19, s169_22, s169_23, s169_26, true_or, or_true, or_false, false_or, or_self, Int32.reduceLT, Int32.reduceLE, Nat.add_zero, Nat.zero_add, Nat.not_lt_zero, not_false_eq_true, not_true_eq_false, and_assoc, kl_q, kl_i, kl_r, kl_n, kl_0, kl_l, cs_0, cs_i, cs_r, cs_n, cs_l, aRf_s, aRf_n, gi_wl, gi_wr, gl_wi, gl_wl, gl_wr, gr_wi, gr_wl, gr_wr, sh_wi, sh_wl, sh_wr, gl_cp, gr_cp, sh_cp, gl_rw, gr_rw, sh_rw, gi_rl, gr_rl, sh_rl, Option.toList_some, Option.toList_none, List.nil_append, List.cons_append, List.append_nil, Option.some.injEq, Prod.mk.injEq, and_true, true_and, and_self, if_true, if_false, reduceCtorEq, Nat.reduceLeDiff, Nat.reduceLT, Nat.reduceAdd, Nat.reduceEqDiff, false_and, and_false, exists_const, exists_eq_left, exists_eq_left', exists_and_left, and_assoc, nltL, nltR, nleL, nleR, neqL, neqR, naL, naR, nmL, nmR, nI_ltI, nI_leI, nI_eq, nI_add, nI_mul, nI_clamp, n0l, n0r, nm1, nm1', nm1l, nm1r, nm1g, nsL, nI_m1, Nat.add_sub_cancel, vpn, vpL, nclL, le32, leLL, leLN, leNL, leNN, inA, nb0, nb1, gi_wi_n, gi_wi_e, gi_rw_n, gi_rw_e, aWi_rw, ifl, ifl_, ifle, ifle_, ifq, ifq_, ifnq, ifnq_, ifnl, ifnl_, ifnle, ifnle_, z399 ok, m_here tc' (show p + j < 2 ^ 30 by omega) e3, e6, e3]
    refine hk _ _ ⟨rfl, a1.wi ⟨rfl, rfl⟩, ?_, by omega, ?_⟩
    · rw [gi_wi_e]
      rfl
    · rw [← e5, sk_s hb]
      rfl
  · rintro lv h' ⟨rfl, a1, e3, hj2, e5⟩
    have tc' := tc.ag a1 (by omega) (by omega)
    have ok := a1.1
    have h1 := sk_le (B := B) hp
    have e7 : p + (sk B T p - p) = sk B T p := by omega
    rw [e7] at e3
    have h2 := (sk_p (B := B) _ p rfl hp).2.2
    have e6 : ¬ lkI B T (sk B T p) = 32 := fun q => h2 ((lk32 tc.2.2.2.2).mp q)
    rw [s169_0]
    simp (disch := omega) only [s169_1, s169_4, s169_6, s169_9, s169_10, s169_10i, s169_11, s169_14, s169_15, s169_16, s169_19, s169_22, s169_23, s169_26, true_or, or_true, or_false, false_or, or_self, Int32.reduceLT, Int32.reduceLE, Nat.add_zero, Nat.zero_add, Nat.not_lt_zero, not_false_eq_true, not_true_eq_false, and_assoc, kl_q, kl_i, kl_r, kl_n, kl_0, kl_l, cs_0, cs_i, cs_r, cs_n, cs_l, aRf_s, aRf_n, gi_wl, gi_wr, gl_wi, gl_wl, gl_wr, gr_wi, gr_wl, gr_wr, sh_wi, sh_wl, sh_wr, gl_cp, gr_cp, sh_cp, gl_rw, gr_rw, sh_rw, gi_rl, gr_rl, sh_rl, Option.toList_some, Option.toList_none, List.nil_append, List.cons_append, List.append_nil, Option.some.injEq, Prod.mk.injEq, and_true, true_and, and_self, if_true, if_false, reduceCtorEq, Nat.reduceLeDiff, Nat.reduceLT, Nat.reduceAdd, Nat.reduceEqDiff, false_and, and_false, exists_const, exists_eq_left, exists_eq_left', exists_and_left, and_assoc, nltL, nltR, nleL, nleR, neqL, neqR, naL, naR, nmL, nmR, nI_ltI, nI_leI, nI_eq, nI_add, nI_mul, nI_clamp, n0l, n0r, nm1, nm1', nm1l, nm1r, nm1g, nsL, nI_m1, Nat.add_sub_cancel, vpn, vpL, nclL, le32, leLL, leLN, leNL, leNN, inA, nb0, nb1, gi_wi_n, gi_wi_e, gi_rw_n, gi_rw_e, aWi_rw, ifl, ifl_, ifle, ifle_, ifq, ifq_, ifnq, ifnq_, ifnl, ifnl_, ifnle, ifnle_, z399 ok, m_here tc' (show sk B T p < 2 ^ 30 by omega) e3, e6]
    exact hq h' a1 e3
theorem m_bad (ok : OK h) (e2 : gi h 399 3 = nI p) (e4 : gi h 399 4 = -1) : AW d 170 0 [some (.ref 399)] [] h Q ↔ Q none (aWi h 399 4 (nI p)) := by
  simp (disch := omega) only [s170_0, s170_1, s170_2, s170_5, s170_6, s170_9, s170_10, s170_13, s170_16, s170_17, s170_20, s170_23, true_or, or_true, or_false, false_or, or_self, Int32.reduceLT, Int32.reduceLE, Nat.add_zero, Nat.zero_add, Nat.not_lt_zero, not_false_eq_true, not_true_eq_false, and_assoc, kl_q, kl_i, kl_r, kl_n, kl_0, kl_l, cs_0, cs_i, cs_r, cs_n, cs_l, aRf_s, aRf_n, gi_wl, gi_wr, gl_wi, gl_wl, gl_wr, gr_wi, gr_wl, gr_wr, sh_wi, sh_wl, sh_wr, gl_cp, gr_cp, sh_cp, gl_rw, gr_rw, sh_rw, gi_rl, gr_rl, sh_rl, Option.toList_some, Option.toList_none, List.nil_append, List.cons_append, List.append_nil, Option.some.injEq, Prod.mk.injEq, and_true, true_and, and_self, if_true, if_false, reduceCtorEq, Nat.reduceLeDiff, Nat.reduceLT, Nat.reduceAdd, Nat.reduceEqDiff, false_and, and_false, exists_const, exists_eq_left, exists_eq_left', exists_and_left, and_assoc, nltL, nltR, nleL, nleR, neqL, neqR, naL, naR, nmL, nmR, nI_ltI, nI_leI, nI_eq, nI_add, nI_mul, nI_clamp, n0l, n0r, nm1, nm1', nm1l, nm1r, nm1g, nsL, nI_m1, Nat.add_sub_cancel, vpn, vpL, nclL, le32, leLL, leLN, leNL, leNN, inA, nb0, nb1, gi_wi_n, gi_wi_e, gi_rw_n, gi_rw_e, aWi_rw, ifl, ifl_, ifle, ifle_, ifq, ifq_, ifnq, ifnq_, ifnl, ifnl_, ifnle, ifnle_, z399 ok, e2, e4]
theorem m_dig {b : Nat} (hb : b < 2 ^ 31) : AW d 171 0 [some (.int (nI b))] [] h Q ↔ Q (some (.int (bI (isD b)))) h := by
  unfold isD
  by_cases h1 : 48 ≤ b
  · by_cases h2 : b ≤ 57
    · simp (disch := omega) only [s171_0, s171_1, s171_3, s171_6, s171_7, s171_9, s171_12, s171_13, s171_16, s171_17, true_or, or_true, or_false, false_or, or_self, Int32.reduceLT, Int32.reduceLE, Nat.add_zero, Nat.zero_add, Nat.not_lt_zero, not_false_eq_true, not_true_eq_false, and_assoc, kl_q, kl_i, kl_r, kl_n, kl_0, kl_l, cs_0, cs_i, cs_r, cs_n, cs_l, aRf_s, aRf_n, gi_wl, gi_wr, gl_wi, gl_wl, gl_wr, gr_wi, gr_wl, gr_wr, sh_wi, sh_wl, sh_wr, gl_cp, gr_cp, sh_cp, gl_rw, gr_rw, sh_rw, gi_rl, gr_rl, sh_rl, Option.toList_some, Option.toList_none, List.nil_append, List.cons_append, List.append_nil, Option.some.injEq, Prod.mk.injEq, and_true, true_and, and_self, if_true, if_false, reduceCtorEq, Nat.reduceLeDiff, Nat.reduceLT, Nat.reduceAdd, Nat.reduceEqDiff, false_and, and_false, exists_const, exists_eq_left, exists_eq_left', exists_and_left, and_assoc, nltL, nltR, nleL, nleR, neqL, neqR, naL, naR, nmL, nmR, nI_ltI, nI_leI, nI_eq, nI_add, nI_mul, nI_clamp, n0l, n0r, nm1, nm1', nm1l, nm1r, nm1g, nsL, nI_m1, Nat.add_sub_cancel, vpn, vpL, nclL, le32, leLL, leLN, leNL, leNN, inA, nb0, nb1, gi_wi_n, gi_wi_e, gi_rw_n, gi_rw_e, aWi_rw, ifl, ifl_, ifle, ifle_, ifq, ifq_, ifnq, ifnq_, ifnl, ifnl_, ifnle, ifnle_]
      simp [h1, h2, bI]
    · simp (disch := omega) only [s171_0, s171_1, s171_3, s171_6, s171_7, s171_9, s171_12, s171_13, s171_16, s171_17, true_or, or_true, or_false, false_or, or_self, Int32.reduceLT, Int32.reduceLE, Nat.add_zero, Nat.zero_add, Nat.not_lt_zero, not_false_eq_true, not_true_eq_false, and_assoc, kl_q, kl_i, kl_r, kl_n, kl_0, kl_l, cs_0, cs_i, cs_r, cs_n, cs_l, aRf_s, aRf_n, gi_wl, gi_wr, gl_wi, gl_wl, gl_wr, gr_wi, gr_wl, gr_wr, sh_wi, sh_wl, sh_wr, gl_cp, gr_cp, sh_cp, gl_rw, gr_rw, sh_rw, gi_rl, gr_rl, sh_rl, Option.toList_some, Option.toList_none, List.nil_append, List.cons_append, List.append_nil, Option.some.injEq, Prod.mk.injEq, and_true, true_and, and_self, if_true, if_false, reduceCtorEq, Nat.reduceLeDiff, Nat.reduceLT, Nat.reduceAdd, Nat.reduceEqDiff, false_and, and_false, exists_const, exists_eq_left, exists_eq_left', exists_and_left, and_assoc, nltL, nltR, nleL, nleR, neqL, neqR, naL, naR, nmL, nmR, nI_ltI, nI_leI, nI_eq, nI_add, nI_mul, nI_clamp, n0l, n0r, nm1, nm1', nm1l, nm1r, nm1g, nsL, nI_m1, Nat.add_sub_cancel, vpn, vpL, nclL, le32, leLL, leLN, leNL, leNN, inA, nb0, nb1, gi_wi_n, gi_wi_e, gi_rw_n, gi_rw_e, aWi_rw, ifl, ifl_, ifle, ifle_, ifq, ifq_, ifnq, ifnq_, ifnl, ifnl_, ifnle, ifnle_]
      simp [h1, h2, bI]
  · simp (disch := omega) only [s171_0, s171_1, s171_3, s171_6, s171_7, s171_9, s171_12, s171_13, s171_16, s171_17, true_or, or_true, or_false, false_or, or_self, Int32.reduceLT, Int32.reduceLE, Nat.add_zero, Nat.zero_add, Nat.not_lt_zero, not_false_eq_true, not_true_eq_false, and_assoc, kl_q, kl_i, kl_r, kl_n, kl_0, kl_l, cs_0, cs_i, cs_r, cs_n, cs_l, aRf_s, aRf_n, gi_wl, gi_wr, gl_wi, gl_wl, gl_wr, gr_wi, gr_wl, gr_wr, sh_wi, sh_wl, sh_wr, gl_cp, gr_cp, sh_cp, gl_rw, gr_rw, sh_rw, gi_rl, gr_rl, sh_rl, Option.toList_some, Option.toList_none, List.nil_append, List.cons_append, List.append_nil, Option.some.injEq, Prod.mk.injEq, and_true, true_and, and_self, if_true, if_false, reduceCtorEq, Nat.reduceLeDiff, Nat.reduceLT, Nat.reduceAdd, Nat.reduceEqDiff, false_and, and_false, exists_const, exists_eq_left, exists_eq_left', exists_and_left, and_assoc, nltL, nltR, nleL, nleR, neqL, neqR, naL, naR, nmL, nmR, nI_ltI, nI_leI, nI_eq, nI_add, nI_mul, nI_clamp, n0l, n0r, nm1, nm1', nm1l, nm1r, nm1g, nsL, nI_m1, Nat.add_sub_cancel, vpn, vpL, nclL, le32, leLL, leLN, leNL, leNN, inA, nb0, nb1, gi_wi_n, gi_wi_e, gi_rw_n, gi_rw_e, aWi_rw, ifl, ifl_, ifle, ifle_, ifq, ifq_, ifnq, ifnq_, ifnl, ifnl_, ifnle, ifnle_]
    simp [h1, bI]
theorem m_digN : AW d 171 0 [some (.int (-1))] [] h Q ↔ Q (some (.int 0)) h := by
  simp (disch := omega) only [s171_0, s171_1, s171_3, s171_6, s171_7, s171_9, s171_12, s171_13, s171_16, s171_17, true_or, or_true, or_false, false_or, or_self, Int32.reduceLT, Int32.reduceLE, Nat.add_zero, Nat.zero_add, Nat.not_lt_zero, not_false_eq_true, not_true_eq_false, and_assoc, kl_q, kl_i, kl_r, kl_n, kl_0, kl_l, cs_0, cs_i, cs_r, cs_n, cs_l, aRf_s, aRf_n, gi_wl, gi_wr, gl_wi, gl_wl, gl_wr, gr_wi, gr_wl, gr_wr, sh_wi, sh_wl, sh_wr, gl_cp, gr_cp, sh_cp, gl_rw, gr_rw, sh_rw, gi_rl, gr_rl, sh_rl, Option.toList_some, Option.toList_none, List.nil_append, List.cons_append, List.append_nil, Option.some.injEq, Prod.mk.injEq, and_true, true_and, and_self, if_true, if_false, reduceCtorEq, Nat.reduceLeDiff, Nat.reduceLT, Nat.reduceAdd, Nat.reduceEqDiff, false_and, and_false, exists_const, exists_eq_left, exists_eq_left', exists_and_left, and_assoc, nltL, nltR, nleL, nleR, neqL, neqR, naL, naR, nmL, nmR, nI_ltI, nI_leI, nI_eq, nI_add, nI_mul, nI_clamp, n0l, n0r, nm1, nm1', nm1l, nm1r, nm1g, nsL, nI_m1, Nat.add_sub_cancel, vpn, vpL, nclL, le32, leLL, leLN, leNL, leNN, inA, nb0, nb1, gi_wi_n, gi_wi_e, gi_rw_n, gi_rw_e, aWi_rw, ifl, ifl_, ifle, ifle_, ifq, ifq_, ifnq, ifnq_, ifnl, ifnl_, ifnle, ifnle_]
/-- is there a digit -/
def dgA (B : Nat → Nat) (T p : Nat) : Bool := decide (p < T) && isD (B p)
theorem m_digP (hb : ∀ i, i < T → B i < 256) : AW d 171 0 [some (.int (lkI B T p))] [] h Q ↔ Q (some (.int (bI (dgA B T p)))) h := by
  unfold lkI dgA
  by_cases h1 : p < T
  · have := hb p h1
    rw [if_pos h1, m_dig (by omega)]
    simp [h1]
  · rw [if_neg h1, m_digN]
    simp [h1, bI]
theorem c_digP (hb : ∀ i, i < T → B i < 256) : AW d 83 0 [some (.int (lkI B T p))] [] h Q ↔ Q (some (.int (bI (dgA B T p)))) h := by
  unfold lkI dgA
  by_cases h1 : p < T
  · have := hb p h1
    rw [if_pos h1, c_dig (by omega)]
    simp [h1]
  · rw [if_neg h1, c_digN]
    simp [h1, bI]
theorem dgA_iff : dgA B T p = true ↔ p < T ∧ isD (B p) = true := by
  unfold dgA
  rw [Bool.and_eq_true, decide_eq_true_eq]
/-- the reference's number of one to four digits, where there is one -/
theorem m_plain (tc : TpM h B T) (hp : p ≤ T) (e2 : gi h 399 3 = nI p) (e4 : gi h 399 4 = -1)
    (hq1 : dgc B T p 5 ≤ 4 → vlD B p (dgc B T p 5) ≤ 9999 → ∀ h', Ag (fun a k => a = 399 ∧ k = 3) h h' → gi h' 399 3 = nI (p + dgc B T p 5) → Q (some (.int (nI (vlD B p (dgc B T p 5))))) h')
    (hq2 : dgc B T p 5 = 5 → ∀ v h', Ag AtY h h' → gi h' 399 4 = nI (p + 4) → gi h' 399 3 = nI (p + 4) → Q (some (.int v)) h') : AW (d + 1) 176 0 [some (.ref 399), none, none] [] h Q := by
  have hT := tc.2.1
  simp (disch := omega) only [s176_0, s176_1, s176_2, s176_3, s176_5, s176_6, s176_9, s176_10, s176_13, s176_16, s176_19, s176_21, s176_22, s176_23, s176_24, s176_27, s176_28, s176_30, s176_31, s176_32, s176_33, s176_33i, s176_34, s176_37, s176_38, s176_39, s176_42, s176_45, s176_48, s176_49, s176_52, s176_55, s176_58, s176_59, s176_62, s176_63, true_or, or_true, or_false, false_or, or_self, Int32.reduceLT, Int32.reduceLE, Nat.add_zero, Nat.zero_add, Nat.not_lt_zero, not_false_eq_true, not_true_eq_false, and_assoc, kl_q, kl_i, kl_r, kl_n, kl_0, kl_l, cs_0, cs_i, cs_r, cs_n, cs_l, aRf_s, aRf_n, gi_wl, gi_wr, gl_wi, gl_wl, gl_wr, gr_wi, gr_wl, gr_wr, sh_wi, sh_wl, sh_wr, gl_cp, gr_cp, sh_cp, gl_rw, gr_rw, sh_rw, gi_rl, gr_rl, sh_rl, Option.toList_some, Option.toList_none, List.nil_append, List.cons_append, List.append_nil, Option.some.injEq, Prod.mk.injEq, and_true, true_and, and_self, if_true, if_false, reduceCtorEq, Nat.reduceLeDiff, Nat.reduceLT, Nat.reduceAdd, Nat.reduceEqDiff, false_and, and_false, exists_const, exists_eq_left, exists_eq_left', exists_and_left, and_assoc, nltL, nltR, nleL, nleR, neqL, neqR, naL, naR, nmL, nmR, nI_ltI, nI_leI, nI_eq, nI_add, nI_mul, nI_clamp, n0l, n0r, nm1, nm1', nm1l, nm1r, nm1g, nsL, nI_m1, Nat.add_sub_cancel, vpn, vpL, nclL, le32, leLL, leLN, leNL, leNN, inA, nb0, nb1, gi_wi_n, gi_wi_e, gi_rw_n, gi_rw_e, aWi_rw, ifl, ifl_, ifle, ifle_, ifq, ifq_, ifnq, ifnq_, ifnl, ifnl_, ifnle, ifnle_]
  have tail : ∀ j h', j ≤ 4 → Ag (fun a k => a = 399 ∧ k = 3) h h' → gi h' 399 3 = nI (p + j) → p + j ≤ T → dgc B T p 5 = j + dgc B T (p + j) (5 - j) → vlD B p j ≤ 9999 → (j = 4 ∨ ¬ (p + j < T ∧ isD (B (p + j)) = true)) → AW (d + 1) 176 48 [some (.ref 399), some (.int (nI (vlD B p j))), some (.int (nI j))] [] h' Q := by
    intro j h' hj a1 e3 hjT e5 hv hx
    have tc' := tc.ag a1 (by omega) (by omega)
    have ok := a1.1
    have e4' : gi h' 399 4 = -1 := by rw [a1.2 _ _ (by omega), e4]
    cases hd : dgA B T (p + j)
    · simp (disch := omega) only [s176_0, s176_1, s176_2, s176_3, s176_5, s176_6, s176_9, s176_10, s176_13, s176_16, s176_19, s176_21, s176_22, s176_23, s176_24, s176_27, s176_28, s176_30, s176_31, s176_32, s176_33, s176_33i, s176_34, s176_37, s176_38, s176_39, s176_42, s176_45, s176_48, s176_49, s176_52, s176_55, s176_58, s176_59, s176_62, s176_63, true_or, or_true, or_false, false_or, or_self, Int32.reduceLT, Int32.reduceLE, Nat.add_zero, Nat.zero_add, Nat.not_lt_zero, not_false_eq_true, not_true_eq_false, and_assoc, kl_q, kl_i, kl_r, kl_n, kl_0, kl_l, cs_0, cs_i, cs_r, cs_n, cs_l, aRf_s, aRf_n, gi_wl, gi_wr, gl_wi, gl_wl, gl_wr, gr_wi, gr_wl, gr_wr, sh_wi, sh_wl, sh_wr, gl_cp, gr_cp, sh_cp, gl_rw, gr_rw, sh_rw, gi_rl, gr_rl, sh_rl, Option.toList_some, Option.toList_none, List.nil_append, List.cons_append, List.append_nil, Option.some.injEq, Prod.mk.injEq, and_true, true_and, and_self, if_true, if_false, reduceCtorEq, Nat.reduceLeDiff, Nat.reduceLT, Nat.reduceAdd, Nat.reduceEqDiff, false_and, and_false, exists_const, exists_eq_left, exists_eq_left', exists_and_left, and_assoc, nltL, nltR, nleL, nleR, neqL, neqR, naL, naR, nmL, nmR, nI_ltI, nI_leI, nI_eq, nI_add, nI_mul, nI_clamp, n0l, n0r, nm1, nm1', nm1l, nm1r, nm1g, nsL, nI_m1, Nat.add_sub_cancel, vpn, vpL, nclL, le32, leLL, leLN, leNL, leNN, inA, nb0, nb1, gi_wi_n, gi_wi_e, gi_rw_n, gi_rw_e, aWi_rw, ifl, ifl_, ifle, ifle_, ifq, ifq_, ifnq, ifnq_, ifnl, ifnl_, ifnle, ifnle_, z399 ok, m_here tc' (show p + j < 2 ^ 30 by omega) e3, m_digP tc.2.2.2.2, hd, bI_0]
      have e6 : dgc B T p 5 = j := dgc_e e5 (fun z => by rw [dgA_iff.mpr z] at hd; cases hd)
      have := hq1 (by omega) (by rw [e6]; exact hv) h' a1 (by rw [e6, e3])
      rw [e6] at this
      exact this
    · have h1 := dgA_iff.mp hd
      have hj4 : j = 4 := by
        rcases hx with hx | hx
        · exact hx
        · exact absurd h1 hx
      subst hj4
      simp (disch := omega) only [s176_0, s176_1, s176_2, s176_3, s176_5, s176_6, s176_9, s176_10, s176_13, s176_16, s176_19, s176_21, s176_22, s176_23, s176_24, s176_27, s176_28, s176_30, s176_31, s176_32, s176_33, s176_33i, s176_34, s176_37, s176_38, s176_39, s176_42, s176_45, s176_48, s176_49, s176_52, s176_55, s176_58, s176_59, s176_62, s176_63, true_or, or_true, or_false, false_or, or_self, Int32.reduceLT, Int32.reduceLE, Nat.add_zero, Nat.zero_add, Nat.not_lt_zero, not_false_eq_true, not_true_eq_false, and_assoc, kl_q, kl_i, kl_r, kl_n, kl_0, kl_l, cs_0, cs_i, cs_r, cs_n, cs_l, aRf_s, aRf_n, gi_wl, gi_wr, gl_wi, gl_wl, gl_wr, gr_wi, gr_wl, gr_wr, sh_wi, sh_wl, sh_wr, gl_cp, gr_cp, sh_cp, gl_rw, gr_rw, sh_rw, gi_rl, gr_rl, sh_rl, Option.toList_some, Option.toList_none, List.nil_append, List.cons_append, List.append_nil, Option.some.injEq, Prod.mk.injEq, and_true, true_and, and_self, if_true, if_false, reduceCtorEq, Nat.reduceLeDiff, Nat.reduceLT, Nat.reduceAdd, Nat.reduceEqDiff, false_and, and_false, exists_const, exists_eq_left, exists_eq_left', exists_and_left, and_assoc, nltL, nltR, nleL, nleR, neqL, neqR, naL, naR, nmL, nmR, nI_ltI, nI_leI, nI_eq, nI_add, nI_mul, nI_clamp, n0l, n0r, nm1, nm1', nm1l, nm1r, nm1g, nsL, nI_m1, Nat.add_sub_cancel, vpn, vpL, nclL, le32, leLL, leLN, leNL, leNN, inA, nb0, nb1, gi_wi_n, gi_wi_e, gi_rw_n, gi_rw_e, aWi_rw, ifl, ifl_, ifle, ifle_, ifq, ifq_, ifnq, ifnq_, ifnl, ifnl_, ifnle, ifnle_, z399 ok, m_here tc' (show p + 4 < 2 ^ 30 by omega) e3, m_digP tc.2.2.2.2, hd, bI_0, Bool.true_eq_false, m_bad ok e3 e4']
      refine hq2 ?_ _ _ ((a1.mono (fun a k z => ⟨z.1, Or.inl z.2⟩)).wi ⟨rfl, Or.inr rfl⟩) gi_wi_e (by rw [gi_wi_n (by omega), e3])
      rw [dgc_s e5 (by omega) h1]
      rfl
  refine aLoop 4 (fun j lv h' => lv = [some (.ref 399), some (.int (nI (vlD B p j))), some (.int (nI j))] ∧ Ag (fun a k => a = 399 ∧ k = 3) h h' ∧ gi h' 399 3 = nI (p + j) ∧ p + j ≤ T ∧ dgc B T p 5 = j + dgc B T (p + j) (5 - j) ∧ vlD B p j + 1 ≤ 10 ^ j) ?_ ?_ 0 _ _ (Nat.zero_le _) ⟨rfl, Ag.refl tc.1, e2, hp, by rw [Nat.zero_add]; rfl, by rw [vlD]; exact Nat.le_refl _⟩
  · rintro j lv h' hj ⟨rfl, a1, e3, hjT, e5, e6⟩ hk
    have tc' := tc.ag a1 (by omega) (by omega)
    have ok := a1.1
    have p10 : (10 : Nat) ^ j ≤ 10 ^ 4 := Nat.pow_le_pow_right (by omega) (by omega)
    have n1 : ¬ 4 ≤ j := by omega
    rw [s176_4]
    cases hd : dgA B T (p + j)
    · simp (disch := omega) only [s176_5, s176_6, s176_9, s176_10, s176_13, s176_16, s176_19, s176_21, s176_22, s176_23, s176_24, s176_27, s176_28, s176_30, s176_31, s176_32, s176_33, s176_33i, s176_34, s176_37, s176_38, s176_39, s176_42, s176_45, true_or, or_true, or_false, false_or, or_self, Int32.reduceLT, Int32.reduceLE, Nat.add_zero, Nat.zero_add, Nat.not_lt_zero, not_false_eq_true, not_true_eq_false, and_assoc, kl_q, kl_i, kl_r, kl_n, kl_0, kl_l, cs_0, cs_i, cs_r, cs_n, cs_l, aRf_s, aRf_n, gi_wl, gi_wr, gl_wi, gl_wl, gl_wr, gr_wi, gr_wl, gr_wr, sh_wi, sh_wl, sh_wr, gl_cp, gr_cp, sh_cp, gl_rw, gr_rw, sh_rw, gi_rl, gr_rl, sh_rl, Option.toList_some, Option.toList_none, List.nil_append, List.cons_append, List.append_nil, Option.some.injEq, Prod.mk.injEq, and_true, true_and, and_self, if_true, if_false, reduceCtorEq, Nat.reduceLeDiff, Nat.reduceLT, Nat.reduceAdd, Nat.reduceEqDiff, false_and, and_false, exists_const, exists_eq_left, exists_eq_left', exists_and_left, and_assoc, nltL, nltR, nleL, nleR, neqL, neqR, naL, naR, nmL, nmR, nI_ltI, nI_leI, nI_eq, nI_add, nI_mul, nI_clamp, n0l, n0r, nm1, nm1', nm1l, nm1r, nm1g, nsL, nI_m1, Nat.add_sub_cancel, vpn, vpL, nclL, le32, leLL, leLN, leNL, leNN, inA, nb0, nb1, gi_wi_n, gi_wi_e, gi_rw_n, gi_rw_e, aWi_rw, ifl, ifl_, ifle, ifle_, ifq, ifq_, ifnq, ifnq_, ifnl, ifnl_, ifnle, ifnle_, z399 ok, n1, m_here tc' (show p + j < 2 ^ 30 by omega) e3, m_digP tc.2.2.2.2, hd, bI_0]
      exact tail j h' (by omega) a1 e3 hjT e5 (by omega) (Or.inr (fun z => by rw [dgA_iff.mpr z] at hd; cases hd))
    · have h1 := dgA_iff.mp hd
      have hb2 := isD_b h1.2
      have el : lkI B T (p + j) = nI (B (p + j)) := if_pos h1.1
      have ev : 10 * vlD B p j + B (p + j) - 48 = vlD B p (j + 1) := by
        rw [vlD]
        omega
      simp (disch := omega) only [s176_5, s176_6, s176_9, s176_10, s176_13, s176_16, s176_19, s176_21, s176_22, s176_23, s176_24, s176_27, s176_28, s176_30, s176_31, s176_32, s176_33, s176_33i, s176_34, s176_37, s176_38, s176_39, s176_42, s176_45, true_or, or_true, or_false, false_or, or_self, Int32.reduceLT, Int32.reduceLE, Nat.add_zero, Nat.zero_add, Nat.not_lt_zero, not_false_eq_true, not_true_eq_false, and_assoc, kl_q, kl_i, kl_r, kl_n, kl_0, kl_l, cs_0, cs_i, cs_r, cs_n, cs_l, aRf_s, aRf_n, gi_wl, gi_wr, gl_wi, gl_wl, gl_wr, gr_wi, gr_wl, gr_wr, sh_wi, sh_wl, sh_wr, gl_cp, gr_cp, sh_cp, gl_rw, gr_rw, sh_rw, gi_rl, gr_rl, sh_rl, Option.toList_some, Option.toList_none, List.nil_append, List.cons_append, List.append_nil, Option.some.injEq, Prod.mk.injEq, and_true, true_and, and_self, if_true, if_false, reduceCtorEq, Nat.reduceLeDiff, Nat.reduceLT, Nat.reduceAdd, Nat.reduceEqDiff, false_and, and_false, exists_const, exists_eq_left, exists_eq_left', exists_and_left, and_assoc, nltL, nltR, nleL, nleR, neqL, neqR, naL, naR, nmL, nmR, nI_ltI, nI_leI, nI_eq, nI_add, nI_mul, nI_clamp, n0l, n0r, nm1, nm1', nm1l, nm1r, nm1g, nsL, nI_m1, Nat.add_sub_cancel, vpn, vpL, nclL, le32, leLL, leLN, leNL, leNN, inA, nb0, nb1, gi_wi_n, gi_wi_e, gi_rw_n, gi_rw_e, aWi_rw, ifl, ifl_, ifle, ifle_, ifq, ifq_, ifnq, ifnq_, ifnl, ifnl_, ifnle, ifnle_, z399 ok, n1, m_here tc' (show p + j < 2 ^ 30 by omega) e3, m_dig (show B (p + j) < 2 ^ 31 by omega), h1.2, bI_0, Bool.true_eq_false, el, ev, e3]
      exact hk _ _ ⟨rfl, a1.wi ⟨rfl, rfl⟩, gi_wi_e, by omega, dgc_s e5 (by omega) h1, by
        rw [Nat.pow_succ, vlD]
        omega⟩
  · rintro lv h' ⟨rfl, a1, e3, hjT, e5, e6⟩
    rw [s176_4]
    simp (disch := omega) only [s176_5, s176_6, s176_9, s176_10, s176_13, s176_16, s176_19, s176_21, s176_22, s176_23, s176_24, s176_27, s176_28, s176_30, s176_31, s176_32, s176_33, s176_33i, s176_34, s176_37, s176_38, s176_39, s176_42, s176_45, true_or, or_true, or_false, false_or, or_self, Int32.reduceLT, Int32.reduceLE, Nat.add_zero, Nat.zero_add, Nat.not_lt_zero, not_false_eq_true, not_true_eq_false, and_assoc, kl_q, kl_i, kl_r, kl_n, kl_0, kl_l, cs_0, cs_i, cs_r, cs_n, cs_l, aRf_s, aRf_n, gi_wl, gi_wr, gl_wi, gl_wl, gl_wr, gr_wi, gr_wl, gr_wr, sh_wi, sh_wl, sh_wr, gl_cp, gr_cp, sh_cp, gl_rw, gr_rw, sh_rw, gi_rl, gr_rl, sh_rl, Option.toList_some, Option.toList_none, List.nil_append, List.cons_append, List.append_nil, Option.some.injEq, Prod.mk.injEq, and_true, true_and, and_self, if_true, if_false, reduceCtorEq, Nat.reduceLeDiff, Nat.reduceLT, Nat.reduceAdd, Nat.reduceEqDiff, false_and, and_false, exists_const, exists_eq_left, exists_eq_left', exists_and_left, and_assoc, nltL, nltR, nleL, nleR, neqL, neqR, naL, naR, nmL, nmR, nI_ltI, nI_leI, nI_eq, nI_add, nI_mul, nI_clamp, n0l, n0r, nm1, nm1', nm1l, nm1r, nm1g, nsL, nI_m1, Nat.add_sub_cancel, vpn, vpL, nclL, le32, leLL, leLN, leNL, leNN, inA, nb0, nb1, gi_wi_n, gi_wi_e, gi_rw_n, gi_rw_e, aWi_rw, ifl, ifl_, ifle, ifle_, ifq, ifq_, ifnq, ifnq_, ifnl, ifnl_, ifnle, ifnle_, Nat.le_refl]
    exact tail 4 h' (Nat.le_refl _) a1 e3 hjT e5 (by omega) (Or.inl rfl)
end T3
