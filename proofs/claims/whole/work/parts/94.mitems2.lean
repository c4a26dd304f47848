-- deps: 93.mitems
section N2
variable {d : Nat} {h : aM} {Q : Option Value → aM → Prop} {B : Nat → Nat} {T p q κ : Nat}
theorem dgcS (n q : Nat) : dgc B T q (n + 1) = if dgA B T q = true then dgc B T (q + 1) n + 1 else 0 := by
  rw [dgc]
  by_cases hd : dgA B T q = true
  · rw [if_pos (dgA_iff.mp hd), if_pos hd]
  · rw [if_neg (fun z => hd (dgA_iff.mpr z)), if_neg hd]
theorem inR_nI {v lo hi : Nat} (hv : v < 2 ^ 31) (h1 : lo < 2 ^ 31) (h2 : hi < 2 ^ 31) : inR (nI v) (nI lo) (nI hi) = decide (lo ≤ v ∧ v ≤ hi) := by
  unfold inR
  rw [Bool.eq_iff_iff]
  simp only [Bool.and_eq_true, decide_eq_true_eq, nI_leI h1 hv, nI_leI hv h2]
theorem m_number {lo hi : Nat} (hlo : lo ≤ 99) (hhi : hi ≤ 99) (tc : TpM h B T) (hp : p ≤ T) (e2 : gi h 399 3 = nI p) (e4 : gi h 399 4 = -1)
    (hq1 : ∀ p' v, nmG B T lo hi (sk B T p) = .inr (p', v) → ∀ h', Ag (fun a k => a = 399 ∧ k = 3) h h' → gi h' 399 3 = nI p' → Q (some (.int (nI v))) h')
    (hq2 : ∀ q, nmG B T lo hi (sk B T p) = .inl q → ∀ v h', Ag AtY h h' → gi h' 399 4 = nI q → Q (some (.int v)) h') : AW (d + 2) 194 0 [some (.ref 399), some (.int (nI lo)), some (.int (nI hi)), none] [] h Q := by
  have ok := tc.1
  have hT := tc.2.1
  have hbb := tc.2.2.2.2
  have hs := sk_le (B := B) hp
  simp (disch := omega) only [s194_0, s194_1, s194_4, s194_7, s194_10, s194_11, s194_14, s194_15, s194_16, s194_17, s194_20, s194_22, s194_23, s194_24, s194_25, s194_25i, s194_26, s194_29, s194_30, s194_31, s194_34, s194_35, s194_38, s194_41, s194_44, s194_46, s194_47, s194_48, s194_49, s194_52, s194_53, s194_55, s194_56, s194_57, s194_58, s194_58i, s194_59, s194_62, s194_63, s194_64, s194_67, s194_68, s194_71, s194_74, s194_77, s194_78, s194_81, s194_84, s194_85, s194_86, s194_87, s194_90, s194_93, s194_94, s194_94i, s194_95, s194_98, s194_99, s194_100, s194_103, s194_104, s194_107, s194_108, true_or, or_true, or_false, false_or, or_self, Int32.reduceLT, Int32.reduceLE, Nat.add_zero, Nat.zero_add, Nat.not_lt_zero, not_false_eq_true, not_true_eq_false, and_assoc, kl_q, kl_i, kl_r, kl_n, kl_0, kl_l, cs_0, cs_i, cs_r, cs_n, cs_l, aRf_s, aRf_n, gi_wl, gi_wr, gl_wi, gl_wl, gl_wr, gr_wi, gr_wl, gr_wr, sh_wi, sh_wl, sh_wr, gl_cp, gr_cp, sh_cp, gl_rw, gr_rw, sh_rw, gi_rl, gr_rl, sh_rl, Option.toList_some, Option.toList_none, List.nil_append, List.cons_append, List.append_nil, Option.some.injEq, Prod.mk.injEq, and_true, true_and, and_self, if_true, if_false, reduceCtorEq, Nat.reduceLeDiff, Nat.reduceLT, Nat.reduceAdd, Nat.reduceEqDiff, false_and, and_false, exists_const, exists_eq_left, exists_eq_left', exists_and_left, and_assoc, nltL, nltR, nleL, nleR, neqL, neqR, naL, naR, nmL, nmR, nI_ltI, nI_leI, nI_eq, nI_add, nI_mul, nI_clamp, n0l, n0r, nm1, nm1', nm1l, nm1r, nm1g, nsL, nI_m1, Nat.add_sub_cancel, vpn, vpL, nclL, le32, leLL, leLN, leNL, leNN, inA, nb0, nb1, gi_wi_n, gi_wi_e, gi_rw_n, gi_rw_e, aWi_rw, ifl, ifl_, ifle, ifle_, ifq, ifq_, ifnq, ifnq_, ifnl, ifnl_, ifnle, ifnle_, z399 ok]
  refine m_lookM tc hp e2 (fun h1 a1 f1 => ?_)
  obtain ⟨s, es⟩ : ∃ s, s = sk B T p := ⟨_, rfl⟩
  rw [← es] at f1 hq1 hq2 hs ⊢
  have tc1 := tc.ag a1 (by omega) (by omega)
  have ok := tc1.1
  have w1 : gi h1 399 4 = -1 := by rw [a1.2 _ _ (by omega), e4]
  have fin : ∀ c h', 1 ≤ c → c ≤ 2 → Ag (fun a k => a = 399 ∧ k = 3) h h' → gi h' 399 3 = nI (s + c) → s + c ≤ T → (dgA B T (s + c) = false → dgc B T s 3 = c) → (dgA B T (s + c) = true → c = 2 ∧ dgc B T s 3 = 3) → vlD B s c ≤ 99 →
      AW (d + 2) 194 67 [some (.ref 399), some (.int (nI lo)), some (.int (nI hi)), some (.int (nI (vlD B s c)))] [] h' Q := by
    intro c h' hc1 hc2 a2 f2 hcT hd0 hd1 hv
    have tc2 := tc.ag a2 (by omega) (by omega)
    have ok := tc2.1
    have w2 : gi h' 399 4 = -1 := by rw [a2.2 _ _ (by omega), e4]
    cases hd : dgA B T (s + c) with
    | true =>
      obtain ⟨rfl, hc3⟩ := hd1 hd
      have e : nmG B T lo hi s = .inl (s + 2) := by
        unfold nmG
        rw [hc3, if_neg (by omega), if_pos rfl]
      simp (disch := omega) only [s194_67, s194_68, s194_71, s194_74, s194_77, s194_78, s194_81, s194_84, s194_85, s194_86, s194_87, s194_90, s194_93, s194_94, s194_94i, s194_95, s194_98, s194_99, s194_100, s194_103, s194_104, s194_107, s194_108, true_or, or_true, or_false, false_or, or_self, Int32.reduceLT, Int32.reduceLE, Nat.add_zero, Nat.zero_add, Nat.not_lt_zero, not_false_eq_true, not_true_eq_false, and_assoc, kl_q, kl_i, kl_r, kl_n, kl_0, kl_l, cs_0, cs_i, cs_r, cs_n, cs_l, aRf_s, aRf_n, gi_wl, gi_wr, gl_wi, gl_wl, gl_wr, gr_wi, gr_wl, gr_wr, sh_wi, sh_wl, sh_wr, gl_cp, gr_cp, sh_cp, gl_rw, gr_rw, sh_rw, gi_rl, gr_rl, sh_rl, Option.toList_some, Option.toList_none, List.nil_append, List.cons_append, List.append_nil, Option.some.injEq, Prod.mk.injEq, and_true, true_and, and_self, if_true, if_false, reduceCtorEq, Nat.reduceLeDiff, Nat.reduceLT, Nat.reduceAdd, Nat.reduceEqDiff, false_and, and_false, exists_const, exists_eq_left, exists_eq_left', exists_and_left, and_assoc, nltL, nltR, nleL, nleR, neqL, neqR, naL, naR, nmL, nmR, nI_ltI, nI_leI, nI_eq, nI_add, nI_mul, nI_clamp, n0l, n0r, nm1, nm1', nm1l, nm1r, nm1g, nsL, nI_m1, Nat.add_sub_cancel, vpn, vpL, nclL, le32, leLL, leLN, leNL, leNN, inA, nb0, nb1, gi_wi_n, gi_wi_e, gi_rw_n, gi_rw_e, aWi_rw, ifl, ifl_, ifle, ifle_, ifq, ifq_, ifnq, ifnq_, ifnl, ifnl_, ifnle, ifnle_, z399 ok, m_here tc2 (show s + 2 < 2 ^ 30 by omega) f2, m_digP hbb, hd, bI_0, Bool.true_eq_false, m_bad ok f2 w2]
      exact hq2 _ e _ _ ((a2.mono (fun a k z => ⟨z.1, Or.inl z.2⟩)).wi ⟨rfl, Or.inr rfl⟩) gi_wi_e
    | false =>
      have hc := hd0 hd
      have e : nmG B T lo hi s = if lo ≤ vlD B s c ∧ vlD B s c ≤ hi then .inr (s + c, vlD B s c) else .inl (s + c - 1) := by
        unfold nmG
        rw [hc, if_neg (by omega), if_neg (by omega)]
      have ei := inR_nI (v := vlD B s c) (lo := lo) (hi := hi) (by omega) (by omega) (by omega)
      by_cases hin : lo ≤ vlD B s c ∧ vlD B s c ≤ hi
      · rw [if_pos hin] at e
        rw [decide_eq_true hin] at ei
        simp (disch := omega) only [s194_67, s194_68, s194_71, s194_74, s194_77, s194_78, s194_81, s194_84, s194_85, s194_86, s194_87, s194_90, s194_93, s194_94, s194_94i, s194_95, s194_98, s194_99, s194_100, s194_103, s194_104, s194_107, s194_108, true_or, or_true, or_false, false_or, or_self, Int32.reduceLT, Int32.reduceLE, Nat.add_zero, Nat.zero_add, Nat.not_lt_zero, not_false_eq_true, not_true_eq_false, and_assoc, kl_q, kl_i, kl_r, kl_n, kl_0, kl_l, cs_0, cs_i, cs_r, cs_n, cs_l, aRf_s, aRf_n, gi_wl, gi_wr, gl_wi, gl_wl, gl_wr, gr_wi, gr_wl, gr_wr, sh_wi, sh_wl, sh_wr, gl_cp, gr_cp, sh_cp, gl_rw, gr_rw, sh_rw, gi_rl, gr_rl, sh_rl, Option.toList_some, Option.toList_none, List.nil_append, List.cons_append, List.append_nil, Option.some.injEq, Prod.mk.injEq, and_true, true_and, and_self, if_true, if_false, reduceCtorEq, Nat.reduceLeDiff, Nat.reduceLT, Nat.reduceAdd, Nat.reduceEqDiff, false_and, and_false, exists_const, exists_eq_left, exists_eq_left', exists_and_left, and_assoc, nltL, nltR, nleL, nleR, neqL, neqR, naL, naR, nmL, nmR, nI_ltI, nI_leI, nI_eq, nI_add, nI_mul, nI_clamp, n0l, n0r, nm1, nm1', nm1l, nm1r, nm1g, nsL, nI_m1, Nat.add_sub_cancel, vpn, vpL, nclL, le32, leLL, leLN, leNL, leNN, inA, nb0, nb1, gi_wi_n, gi_wi_e, gi_rw_n, gi_rw_e, aWi_rw, ifl, ifl_, ifle, ifle_, ifq, ifq_, ifnq, ifnq_, ifnl, ifnl_, ifnle, ifnle_, z399 ok, m_here tc2 (show s + c < 2 ^ 30 by omega) f2, m_digP hbb, hd, bI_0, m_in, ei, Bool.true_eq_false]
        exact hq1 _ _ e h' a2 f2
      · rw [if_neg hin] at e
        rw [decide_eq_false hin] at ei
        have ok3 : OK (aWi h' 399 3 (nI (s + c - 1))) := ok
        have f3 : gi (aWi h' 399 3 (nI (s + c - 1))) 399 3 = nI (s + c - 1) := gi_wi_e
        have w3 : gi (aWi h' 399 3 (nI (s + c - 1))) 399 4 = -1 := by rw [gi_wi_n (by omega), w2]
        simp (disch := omega) only [s194_67, s194_68, s194_71, s194_74, s194_77, s194_78, s194_81, s194_84, s194_85, s194_86, s194_87, s194_90, s194_93, s194_94, s194_94i, s194_95, s194_98, s194_99, s194_100, s194_103, s194_104, s194_107, s194_108, true_or, or_true, or_false, false_or, or_self, Int32.reduceLT, Int32.reduceLE, Nat.add_zero, Nat.zero_add, Nat.not_lt_zero, not_false_eq_true, not_true_eq_false, and_assoc, kl_q, kl_i, kl_r, kl_n, kl_0, kl_l, cs_0, cs_i, cs_r, cs_n, cs_l, aRf_s, aRf_n, gi_wl, gi_wr, gl_wi, gl_wl, gl_wr, gr_wi, gr_wl, gr_wr, sh_wi, sh_wl, sh_wr, gl_cp, gr_cp, sh_cp, gl_rw, gr_rw, sh_rw, gi_rl, gr_rl, sh_rl, Option.toList_some, Option.toList_none, List.nil_append, List.cons_append, List.append_nil, Option.some.injEq, Prod.mk.injEq, and_true, true_and, and_self, if_true, if_false, reduceCtorEq, Nat.reduceLeDiff, Nat.reduceLT, Nat.reduceAdd, Nat.reduceEqDiff, false_and, and_false, exists_const, exists_eq_left, exists_eq_left', exists_and_left, and_assoc, nltL, nltR, nleL, nleR, neqL, neqR, naL, naR, nmL, nmR, nI_ltI, nI_leI, nI_eq, nI_add, nI_mul, nI_clamp, n0l, n0r, nm1, nm1', nm1l, nm1r, nm1g, nsL, nI_m1, Nat.add_sub_cancel, vpn, vpL, nclL, le32, leLL, leLN, leNL, leNN, inA, nb0, nb1, gi_wi_n, gi_wi_e, gi_rw_n, gi_rw_e, aWi_rw, ifl, ifl_, ifle, ifle_, ifq, ifq_, ifnq, ifnq_, ifnl, ifnl_, ifnle, ifnle_, z399 ok, m_here tc2 (show s + c < 2 ^ 30 by omega) f2, m_digP hbb, hd, bI_0, m_in, ei, f2, m_bad ok3 f3 w3]
        exact hq2 _ e _ _ (((a2.mono (fun a k z => ⟨z.1, Or.inl z.2⟩)).wi ⟨rfl, Or.inl rfl⟩).wi ⟨rfl, Or.inr rfl⟩) gi_wi_e
  cases h0 : dgA B T s with
  | false =>
    have e : nmG B T lo hi s = .inl s := if_pos (by rw [dgcS, h0]; rfl)
    simp (disch := omega) only [s194_4, s194_7, s194_10, s194_11, s194_14, s194_15, true_or, or_true, or_false, false_or, or_self, Int32.reduceLT, Int32.reduceLE, Nat.add_zero, Nat.zero_add, Nat.not_lt_zero, not_false_eq_true, not_true_eq_false, and_assoc, kl_q, kl_i, kl_r, kl_n, kl_0, kl_l, cs_0, cs_i, cs_r, cs_n, cs_l, aRf_s, aRf_n, gi_wl, gi_wr, gl_wi, gl_wl, gl_wr, gr_wi, gr_wl, gr_wr, sh_wi, sh_wl, sh_wr, gl_cp, gr_cp, sh_cp, gl_rw, gr_rw, sh_rw, gi_rl, gr_rl, sh_rl, Option.toList_some, Option.toList_none, List.nil_append, List.cons_append, List.append_nil, Option.some.injEq, Prod.mk.injEq, and_true, true_and, and_self, if_true, if_false, reduceCtorEq, Nat.reduceLeDiff, Nat.reduceLT, Nat.reduceAdd, Nat.reduceEqDiff, false_and, and_false, exists_const, exists_eq_left, exists_eq_left', exists_and_left, and_assoc, nltL, nltR, nleL, nleR, neqL, neqR, naL, naR, nmL, nmR, nI_ltI, nI_leI, nI_eq, nI_add, nI_mul, nI_clamp, n0l, n0r, nm1, nm1', nm1l, nm1r, nm1g, nsL, nI_m1, Nat.add_sub_cancel, vpn, vpL, nclL, le32, leLL, leLN, leNL, leNN, inA, nb0, nb1, gi_wi_n, gi_wi_e, gi_rw_n, gi_rw_e, aWi_rw, ifl, ifl_, ifle, ifle_, ifq, ifq_, ifnq, ifnq_, ifnl, ifnl_, ifnle, ifnle_, z399 ok, m_digP hbb, h0, bI_0, m_bad ok f1 w1]
    exact hq2 _ e _ _ ((a1.mono (fun a k z => ⟨z.1, Or.inl z.2⟩)).wi ⟨rfl, Or.inr rfl⟩) gi_wi_e
  | true =>
    have h0' := dgA_iff.mp h0
    have hb := isD_b h0'.2
    have el : lkI B T s = nI (B s) := if_pos h0'.1
    have v1 : vlD B s 1 = B s - 48 := by
      rw [vlD, vlD]
      show 10 * 0 + (B s - 48) = _
      omega
    simp (disch := omega) only [s194_4, s194_7, s194_10, s194_11, s194_14, s194_15, s194_16, s194_17, s194_20, s194_22, s194_23, s194_24, s194_25, s194_25i, s194_26, s194_29, s194_30, s194_31, s194_34, s194_35, true_or, or_true, or_false, false_or, or_self, Int32.reduceLT, Int32.reduceLE, Nat.add_zero, Nat.zero_add, Nat.not_lt_zero, not_false_eq_true, not_true_eq_false, and_assoc, kl_q, kl_i, kl_r, kl_n, kl_0, kl_l, cs_0, cs_i, cs_r, cs_n, cs_l, aRf_s, aRf_n, gi_wl, gi_wr, gl_wi, gl_wl, gl_wr, gr_wi, gr_wl, gr_wr, sh_wi, sh_wl, sh_wr, gl_cp, gr_cp, sh_cp, gl_rw, gr_rw, sh_rw, gi_rl, gr_rl, sh_rl, Option.toList_some, Option.toList_none, List.nil_append, List.cons_append, List.append_nil, Option.some.injEq, Prod.mk.injEq, and_true, true_and, and_self, if_true, if_false, reduceCtorEq, Nat.reduceLeDiff, Nat.reduceLT, Nat.reduceAdd, Nat.reduceEqDiff, false_and, and_false, exists_const, exists_eq_left, exists_eq_left', exists_and_left, and_assoc, nltL, nltR, nleL, nleR, neqL, neqR, naL, naR, nmL, nmR, nI_ltI, nI_leI, nI_eq, nI_add, nI_mul, nI_clamp, n0l, n0r, nm1, nm1', nm1l, nm1r, nm1g, nsL, nI_m1, Nat.add_sub_cancel, vpn, vpL, nclL, le32, leLL, leLN, leNL, leNN, inA, nb0, nb1, gi_wi_n, gi_wi_e, gi_rw_n, gi_rw_e, aWi_rw, ifl, ifl_, ifle, ifle_, ifq, ifq_, ifnq, ifnq_, ifnl, ifnl_, ifnle, ifnle_, z399 ok, el, m_dig (show B s < 2 ^ 31 by omega), h0'.2, bI_0, Bool.true_eq_false, m_here tc1 (show s < 2 ^ 30 by omega) f1, f1]
    obtain ⟨h2, eh2⟩ : ∃ h2, h2 = aWi h1 399 3 (nI (s + 1)) := ⟨_, rfl⟩
    rw [← eh2]
    have a2 : Ag (fun a k => a = 399 ∧ k = 3) h h2 := by
      rw [eh2]
      exact a1.wi ⟨rfl, rfl⟩
    have f2 : gi h2 399 3 = nI (s + 1) := by rw [eh2, gi_wi_e]
    have tc2 := tc.ag a2 (by omega) (by omega)
    have ok := tc2.1
    cases h1' : dgA B T (s + 1) with
    | false =>
      have hd : dgc B T s 3 = 1 := by
        rw [dgcS, h0, if_pos rfl, dgcS, h1']
        rfl
      simp (disch := omega) only [s194_35, s194_38, s194_41, s194_44, s194_46, s194_47, s194_48, s194_49, s194_52, s194_53, s194_55, s194_56, s194_57, s194_58, s194_58i, s194_59, s194_62, s194_63, s194_64, true_or, or_true, or_false, false_or, or_self, Int32.reduceLT, Int32.reduceLE, Nat.add_zero, Nat.zero_add, Nat.not_lt_zero, not_false_eq_true, not_true_eq_false, and_assoc, kl_q, kl_i, kl_r, kl_n, kl_0, kl_l, cs_0, cs_i, cs_r, cs_n, cs_l, aRf_s, aRf_n, gi_wl, gi_wr, gl_wi, gl_wl, gl_wr, gr_wi, gr_wl, gr_wr, sh_wi, sh_wl, sh_wr, gl_cp, gr_cp, sh_cp, gl_rw, gr_rw, sh_rw, gi_rl, gr_rl, sh_rl, Option.toList_some, Option.toList_none, List.nil_append, List.cons_append, List.append_nil, Option.some.injEq, Prod.mk.injEq, and_true, true_and, and_self, if_true, if_false, reduceCtorEq, Nat.reduceLeDiff, Nat.reduceLT, Nat.reduceAdd, Nat.reduceEqDiff, false_and, and_false, exists_const, exists_eq_left, exists_eq_left', exists_and_left, and_assoc, nltL, nltR, nleL, nleR, neqL, neqR, naL, naR, nmL, nmR, nI_ltI, nI_leI, nI_eq, nI_add, nI_mul, nI_clamp, n0l, n0r, nm1, nm1', nm1l, nm1r, nm1g, nsL, nI_m1, Nat.add_sub_cancel, vpn, vpL, nclL, le32, leLL, leLN, leNL, leNN, inA, nb0, nb1, gi_wi_n, gi_wi_e, gi_rw_n, gi_rw_e, aWi_rw, ifl, ifl_, ifle, ifle_, ifq, ifq_, ifnq, ifnq_, ifnl, ifnl_, ifnle, ifnle_, z399 ok, m_here tc2 (show s + 1 < 2 ^ 30 by omega) f2, m_digP hbb, h1', bI_0]
      have t := fin 1 h2 (by omega) (by omega) a2 f2 (by omega) (fun _ => hd) (fun z => by rw [h1'] at z; cases z) (by omega)
      rw [v1] at t
      exact t
    | true =>
      have h2' := dgA_iff.mp h1'
      have hb2 := isD_b h2'.2
      have el2 : lkI B T (s + 1) = nI (B (s + 1)) := if_pos h2'.1
      have v2 : 10 * (B s - 48) + B (s + 1) - 48 = vlD B s 2 := by
        rw [vlD, v1]
        omega
      simp (disch := omega) only [s194_35, s194_38, s194_41, s194_44, s194_46, s194_47, s194_48, s194_49, s194_52, s194_53, s194_55, s194_56, s194_57, s194_58, s194_58i, s194_59, s194_62, s194_63, s194_64, true_or, or_true, or_false, false_or, or_self, Int32.reduceLT, Int32.reduceLE, Nat.add_zero, Nat.zero_add, Nat.not_lt_zero, not_false_eq_true, not_true_eq_false, and_assoc, kl_q, kl_i, kl_r, kl_n, kl_0, kl_l, cs_0, cs_i, cs_r, cs_n, cs_l, aRf_s, aRf_n, gi_wl, gi_wr, gl_wi, gl_wl, gl_wr, gr_wi, gr_wl, gr_wr, sh_wi, sh_wl, sh_wr, gl_cp, gr_cp, sh_cp, gl_rw, gr_rw, sh_rw, gi_rl, gr_rl, sh_rl, Option.toList_some, Option.toList_none, List.nil_append, List.cons_append, List.append_nil, Option.some.injEq, Prod.mk.injEq, and_true, true_and, and_self, if_true, if_false, reduceCtorEq, Nat.reduceLeDiff, Nat.reduceLT, Nat.reduceAdd, Nat.reduceEqDiff, false_and, and_false, exists_const, exists_eq_left, exists_eq_left', exists_and_left, and_assoc, nltL, nltR, nleL, nleR, neqL, neqR, naL, naR, nmL, nmR, nI_ltI, nI_leI, nI_eq, nI_add, nI_mul, nI_clamp, n0l, n0r, nm1, nm1', nm1l, nm1r, nm1g, nsL, nI_m1, Nat.add_sub_cancel, vpn, vpL, nclL, le32, leLL, leLN, leNL, leNN, inA, nb0, nb1, gi_wi_n, gi_wi_e, gi_rw_n, gi_rw_e, aWi_rw, ifl, ifl_, ifle, ifle_, ifq, ifq_, ifnq, ifnq_, ifnl, ifnl_, ifnle, ifnle_, z399 ok, el2, m_here tc2 (show s + 1 < 2 ^ 30 by omega) f2, m_dig (show B (s + 1) < 2 ^ 31 by omega), h2'.2, bI_0, Bool.true_eq_false, f2, v2]
      refine fin 2 _ (by omega) (by omega) (a2.wi ⟨rfl, rfl⟩) gi_wi_e (by omega) (fun z => ?_) (fun z => ⟨rfl, ?_⟩) ?_
      · rw [dgcS, h0, if_pos rfl, dgcS, h1', if_pos rfl, dgcS, z]
        rfl
      · rw [dgcS, h0, if_pos rfl, dgcS, h1', if_pos rfl, dgcS, z]
        rfl
      · rw [← v2]
        omega
def IY (A fr κ a k : Nat) : Prop := AtY a k ∨ (a = A ∧ fr ≤ k ∧ k < fr + mK κ)
def ItM (h : aM) (B : Nat → Nat) (T p A fr κ : Nat) (row : Nat → Nat) : Prop := TpM h B T ∧ gi h 399 3 = nI p ∧ gi h 399 4 = -1 ∧ ∀ k, k < mK κ → gi h A (fr + k) = nI (row k)
def PostP (B : Nat → Nat) (T A fr κ : Nat) (r : IR) (h : aM) : Prop := match r with
  | .inl q => OK h ∧ (gi h 399 4 = nI q ∨ (TpM h B T ∧ gi h 399 4 = -1 ∧ gi h 399 3 = nI q ∧ ∃ k, ltK κ (sgB B T q) = some k))
  | .inr (p, row) => ItM h B T p A fr κ row
def itX (B : Nat → Nat) (T κ p : Nat) : Int32 := match ltK κ (sgB B T (sk B T p)) with
  | some k => nI k
  | none => -1
theorem m_has {w k : Nat} (hw : w < 32) (hk : k < 5) : AW d 162 0 [some (.int (nI w)), some (.int (nI k))] [] h Q ↔ Q (some (.int (bI (w.testBit k)))) h := by
  have bS := bitS w hw k hk
  cases ht : w.testBit k with
  | true =>
    rw [ht, if_pos rfl] at bS
    simp (disch := omega) only [s162_0, s162_1, s162_2, s162_3, s162_4, s162_5, s162_6, s162_9, s162_10, s162_13, s162_14, true_or, or_true, or_false, false_or, or_self, Int32.reduceLT, Int32.reduceLE, Nat.add_zero, Nat.zero_add, Nat.not_lt_zero, not_false_eq_true, not_true_eq_false, and_assoc, kl_q, kl_i, kl_r, kl_n, kl_0, kl_l, cs_0, cs_i, cs_r, cs_n, cs_l, aRf_s, aRf_n, gi_wl, gi_wr, gl_wi, gl_wl, gl_wr, gr_wi, gr_wl, gr_wr, sh_wi, sh_wl, sh_wr, gl_cp, gr_cp, sh_cp, gl_rw, gr_rw, sh_rw, gi_rl, gr_rl, sh_rl, Option.toList_some, Option.toList_none, List.nil_append, List.cons_append, List.append_nil, Option.some.injEq, Prod.mk.injEq, and_true, true_and, and_self, if_true, if_false, reduceCtorEq, Nat.reduceLeDiff, Nat.reduceLT, Nat.reduceAdd, Nat.reduceEqDiff, false_and, and_false, exists_const, exists_eq_left, exists_eq_left', exists_and_left, and_assoc, nltL, nltR, nleL, nleR, neqL, neqR, naL, naR, nmL, nmR, nI_ltI, nI_leI, nI_eq, nI_add, nI_mul, nI_clamp, n0l, n0r, nm1, nm1', nm1l, nm1r, nm1g, nsL, nI_m1, Nat.add_sub_cancel, vpn, vpL, nclL, le32, leLL, leLN, leNL, leNN, inA, nb0, nb1, gi_wi_n, gi_wi_e, gi_rw_n, gi_rw_e, aWi_rw, ifl, ifl_, ifle, ifle_, ifq, ifq_, ifnq, ifnq_, ifnl, ifnl_, ifnle, ifnle_, bS]
    rfl
  | false =>
    rw [ht, if_neg (by decide)] at bS
    simp (disch := omega) only [s162_0, s162_1, s162_2, s162_3, s162_4, s162_5, s162_6, s162_9, s162_10, s162_13, s162_14, true_or, or_true, or_false, false_or, or_self, Int32.reduceLT, Int32.reduceLE, Nat.add_zero, Nat.zero_add, Nat.not_lt_zero, not_false_eq_true, not_true_eq_false, and_assoc, kl_q, kl_i, kl_r, kl_n, kl_0, kl_l, cs_0, cs_i, cs_r, cs_n, cs_l, aRf_s, aRf_n, gi_wl, gi_wr, gl_wi, gl_wl, gl_wr, gr_wi, gr_wl, gr_wr, sh_wi, sh_wl, sh_wr, gl_cp, gr_cp, sh_cp, gl_rw, gr_rw, sh_rw, gi_rl, gr_rl, sh_rl, Option.toList_some, Option.toList_none, List.nil_append, List.cons_append, List.append_nil, Option.some.injEq, Prod.mk.injEq, and_true, true_and, and_self, if_true, if_false, reduceCtorEq, Nat.reduceLeDiff, Nat.reduceLT, Nat.reduceAdd, Nat.reduceEqDiff, false_and, and_false, exists_const, exists_eq_left, exists_eq_left', exists_and_left, and_assoc, nltL, nltR, nleL, nleR, neqL, neqR, naL, naR, nmL, nmR, nI_ltI, nI_leI, nI_eq, nI_add, nI_mul, nI_clamp, n0l, n0r, nm1, nm1', nm1l, nm1r, nm1g, nsL, nI_m1, Nat.add_sub_cancel, vpn, vpL, nclL, le32, leLL, leLN, leNL, leNN, inA, nb0, nb1, gi_wi_n, gi_wi_e, gi_rw_n, gi_rw_e, aWi_rw, ifl, ifl_, ifle, ifle_, ifq, ifq_, ifnq, ifnq_, ifnl, ifnl_, ifnle, ifnle_, bS, show ¬ (0 : Int32) = 1 by decide]
    rfl
end N2
