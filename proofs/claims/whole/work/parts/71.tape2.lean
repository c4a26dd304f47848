-- deps: 70.tape
section T2
variable {d : Nat} {g h : aM} {Q : Option Value → aM → Prop} {B : Nat → Nat} {T p q n : Nat}
theorem dgc_s {j : Nat} (h1 : dgc B T q n = j + dgc B T (q + j) (n - j)) (hj : j < n) (hd : q + j < T ∧ isD (B (q + j)) = true) : dgc B T q n = (j + 1) + dgc B T (q + (j + 1)) (n - (j + 1)) := by
  rw [show n - j = (n - (j + 1)) + 1 by omega, dgc, if_pos hd] at h1
  rw [h1, show q + (j + 1) = q + j + 1 by omega]
  omega
theorem dgc_e {j : Nat} (h1 : dgc B T q n = j + dgc B T (q + j) (n - j)) (hd : ¬ (q + j < T ∧ isD (B (q + j)) = true)) : dgc B T q n = j := by
  cases h2 : n - j with
  | zero =>
    rw [h2, dgc] at h1
    exact h1
  | succ k =>
    rw [h2, dgc, if_neg hd] at h1
    exact h1
theorem isD_b {b : Nat} (h : isD b = true) : 48 ≤ b ∧ b ≤ 57 := of_decide_eq_true h
theorem imax0 {v : Nat} (h : v < 2 ^ 31) : imax 0 (nI v) = nI v := by
  unfold imax
  split
  · rfl
  · next q =>
    by_cases e : v = 0
    · rw [e]
      rfl
    · exfalso
      apply q
      exact (nI_ltI (a := 0) (by omega) h).mpr (by omega)
theorem c_num (tc : TpC h B T) (hp : p ≤ T) (e2 : gi h 33 2 = nI p) (hn : n ≤ 4) (hn1 : 1 ≤ n)
    (hq0 : dgc B T (sk B T p) (n + 1) = 0 → ∀ h', Ag AtZ h h' → gi h' 33 3 = nI (sk B T p) → Q (some (.int (-1))) h')
    (hq1 : ∀ c, dgc B T (sk B T p) (n + 1) = c → 1 ≤ c → c ≤ n → vlD B (sk B T p) c ≤ 9999 → ∀ h', Ag AtZ h h' → gi h' 33 2 = nI (sk B T p + c) → sk B T p + c ≤ T → Q (some (.int (nI (vlD B (sk B T p) c)))) h')
    (hq2 : dgc B T (sk B T p) (n + 1) = n + 1 → ∀ h', Ag AtZ h h' → gi h' 33 3 = nI (sk B T p + n) → Q (some (.int (-1))) h') :
    AW (d + 1) 82 0 [some (.ref 33), some (.int (nI n)), none, none] [] h Q := by
  have ok := tc.1
  have hT := tc.2.1
  simp (disch := omega) only [s82_0, s82_1, s82_2, s82_3, s82_6, s82_7, s82_8, s82_10, s82_11, s82_14, s82_15, s82_18, s82_19, s82_22, s82_25, s82_26, s82_29, s82_30, s82_33, s82_34, s82_37, s82_40, s82_41, s82_42, s82_45, s82_46, s82_47, s82_50, s82_53, s82_54, s82_55, s82_57, s82_58, s82_59, s82_62, s82_63, s82_64, s82_67, s82_68, s82_71, s82_72, s82_73, s82_75, s82_76, s82_77, s82_78, s82_78i, s82_79, s82_82, s82_83, s82_84, s82_87, s82_90, s82_93, s82_94, s82_95, s82_98, s82_99, s82_100, s82_103, s82_106, s82_107, true_or, or_true, or_false, false_or, or_self, Int32.reduceLT, Int32.reduceLE, Nat.add_zero, Nat.zero_add, Nat.not_lt_zero, not_false_eq_true, not_true_eq_false, and_assoc, kl_q, kl_i, kl_r, kl_n, kl_0, kl_l, cs_0, cs_i, cs_r, cs_n, cs_l, aRf_s, aRf_n, gi_wl, gi_wr, gl_wi, gl_wl, gl_wr, gr_wi, gr_wl, gr_wr, sh_wi, sh_wl, sh_wr, gl_cp, gr_cp, sh_cp, gl_rw, gr_rw, sh_rw, gi_rl, gr_rl, sh_rl, Option.toList_some, Option.toList_none, List.nil_append, List.cons_append, List.append_nil, Option.some.injEq, Prod.mk.injEq, and_true, true_and, and_self, if_true, if_false, reduceCtorEq, Nat.reduceLeDiff, Nat.reduceLT, Nat.reduceAdd, Nat.reduceEqDiff, false_and, and_false, exists_const, exists_eq_left, exists_eq_left', exists_and_left, and_assoc, nltL, nltR, nleL, nleR, neqL, neqR, naL, naR, nmL, nmR, nI_ltI, nI_leI, nI_eq, nI_add, nI_mul, nI_clamp, n0l, n0r, nm1, nm1', nm1l, nm1r, nm1g, nsL, nI_m1, Nat.add_sub_cancel, vpn, vpL, nclL, le32, leLL, leLN, leNL, leNN, inA, nb0, nb1, gi_wi_n, gi_wi_e, gi_rw_n, gi_rw_e, aWi_rw, ifl, ifl_, ifle, ifle_, ifq, ifq_, ifnq, ifnq_, ifnl, ifnl_, ifnle, ifnle_, z33 ok]
  refine c_look tc hp e2 (fun h1 a1 f1 f2 => ?_)
  have tc1 := tc.ag a1 (by unfold AtZ; omega) (by unfold AtZ; omega)
  obtain ⟨q, eq⟩ : ∃ q, q = sk B T p := ⟨_, rfl⟩
  rw [← eq] at hq0 hq1 hq2 f1
  have hqT : q ≤ T := by
    rw [eq]
    exact (sk_le hp).2
  simp (disch := omega) only [s82_0, s82_1, s82_2, s82_3, s82_6, s82_7, s82_8, s82_10, s82_11, s82_14, s82_15, s82_18, s82_19, s82_22, s82_25, s82_26, s82_29, s82_30, s82_33, s82_34, s82_37, s82_40, s82_41, s82_42, s82_45, s82_46, s82_47, s82_50, s82_53, s82_54, s82_55, s82_57, s82_58, s82_59, s82_62, s82_63, s82_64, s82_67, s82_68, s82_71, s82_72, s82_73, s82_75, s82_76, s82_77, s82_78, s82_78i, s82_79, s82_82, s82_83, s82_84, s82_87, s82_90, s82_93, s82_94, s82_95, s82_98, s82_99, s82_100, s82_103, s82_106, s82_107, true_or, or_true, or_false, false_or, or_self, Int32.reduceLT, Int32.reduceLE, Nat.add_zero, Nat.zero_add, Nat.not_lt_zero, not_false_eq_true, not_true_eq_false, and_assoc, kl_q, kl_i, kl_r, kl_n, kl_0, kl_l, cs_0, cs_i, cs_r, cs_n, cs_l, aRf_s, aRf_n, gi_wl, gi_wr, gl_wi, gl_wl, gl_wr, gr_wi, gr_wl, gr_wr, sh_wi, sh_wl, sh_wr, gl_cp, gr_cp, sh_cp, gl_rw, gr_rw, sh_rw, gi_rl, gr_rl, sh_rl, Option.toList_some, Option.toList_none, List.nil_append, List.cons_append, List.append_nil, Option.some.injEq, Prod.mk.injEq, and_true, true_and, and_self, if_true, if_false, reduceCtorEq, Nat.reduceLeDiff, Nat.reduceLT, Nat.reduceAdd, Nat.reduceEqDiff, false_and, and_false, exists_const, exists_eq_left, exists_eq_left', exists_and_left, and_assoc, nltL, nltR, nleL, nleR, neqL, neqR, naL, naR, nmL, nmR, nI_ltI, nI_leI, nI_eq, nI_add, nI_mul, nI_clamp, n0l, n0r, nm1, nm1', nm1l, nm1r, nm1g, nsL, nI_m1, Nat.add_sub_cancel, vpn, vpL, nclL, le32, leLL, leLN, leNL, leNN, inA, nb0, nb1, gi_wi_n, gi_wi_e, gi_rw_n, gi_rw_e, aWi_rw, ifl, ifl_, ifle, ifle_, ifq, ifq_, ifnq, ifnq_, ifnl, ifnl_, ifnle, ifnle_]
  refine aLoop (n + 1) (fun j lv h' => j ≤ n ∧ lv = [some (.ref 33), some (.int (nI n)), some (.int (if j = 0 then -1 else nI (vlD B q j))), some (.int (nI j))] ∧ Ag AtZ h h' ∧ gi h' 33 2 = nI (q + j) ∧ q + j ≤ T ∧ dgc B T q (n + 1) = j + dgc B T (q + j) (n + 1 - j) ∧ vlD B q j + 1 ≤ 10 ^ j) ?_ ?_ 0 _ _ (Nat.zero_le _) ⟨Nat.zero_le _, rfl, a1, f1, hqT, by rw [Nat.zero_add]; rfl, by rw [vlD]; exact Nat.le_refl _⟩
  · rintro j lv h' hj ⟨hjn, rfl, a2, e3, hjT, e4, e5⟩ hk
    have tc2 := tc.ag a2 (by unfold AtZ; omega) (by unfold AtZ; omega)
    have ok := a2.1
    have n1 : ¬ n < j := by omega
    have p10 : (10 : Nat) ^ j ≤ 10 ^ 4 := Nat.pow_le_pow_right (by omega) (by omega)
    have stop : ¬ (q + j < T ∧ isD (B (q + j)) = true) → AW (d + 1) 82 93 [some (.ref 33), some (.int (nI n)), some (.int (if j = 0 then -1 else nI (vlD B q j))), some (.int (nI j))] [] h' Q := by
      intro hd
      have e6 := dgc_e e4 hd
      by_cases hj0 : j = 0
      · subst hj0
        rw [Nat.add_zero] at e3
        simp (disch := omega) only [s82_0, s82_1, s82_2, s82_3, s82_6, s82_7, s82_8, s82_10, s82_11, s82_14, s82_15, s82_18, s82_19, s82_22, s82_25, s82_26, s82_29, s82_30, s82_33, s82_34, s82_37, s82_40, s82_41, s82_42, s82_45, s82_46, s82_47, s82_50, s82_53, s82_54, s82_55, s82_57, s82_58, s82_59, s82_62, s82_63, s82_64, s82_67, s82_68, s82_71, s82_72, s82_73, s82_75, s82_76, s82_77, s82_78, s82_78i, s82_79, s82_82, s82_83, s82_84, s82_87, s82_90, s82_93, s82_94, s82_95, s82_98, s82_99, s82_100, s82_103, s82_106, s82_107, true_or, or_true, or_false, false_or, or_self, Int32.reduceLT, Int32.reduceLE, Nat.add_zero, Nat.zero_add, Nat.not_lt_zero, not_false_eq_true, not_true_eq_false, and_assoc, kl_q, kl_i, kl_r, kl_n, kl_0, kl_l, cs_0, cs_i, cs_r, cs_n, cs_l, aRf_s, aRf_n, gi_wl, gi_wr, gl_wi, gl_wl, gl_wr, gr_wi, gr_wl, gr_wr, sh_wi, sh_wl, sh_wr, gl_cp, gr_cp, sh_cp, gl_rw, gr_rw, sh_rw, gi_rl, gr_rl, sh_rl, Option.toList_some, Option.toList_none, List.nil_append, List.cons_append, List.append_nil, Option.some.injEq, Prod.mk.injEq, and_true, true_and, and_self, if_true, if_false, reduceCtorEq, Nat.reduceLeDiff, Nat.reduceLT, Nat.reduceAdd, Nat.reduceEqDiff, false_and, and_false, exists_const, exists_eq_left, exists_eq_left', exists_and_left, and_assoc, nltL, nltR, nleL, nleR, neqL, neqR, naL, naR, nmL, nmR, nI_ltI, nI_leI, nI_eq, nI_add, nI_mul, nI_clamp, n0l, n0r, nm1, nm1', nm1l, nm1r, nm1g, nsL, nI_m1, Nat.add_sub_cancel, vpn, vpL, nclL, le32, leLL, leLN, leNL, leNN, inA, nb0, nb1, gi_wi_n, gi_wi_e, gi_rw_n, gi_rw_e, aWi_rw, ifl, ifl_, ifle, ifle_, ifq, ifq_, ifnq, ifnq_, ifnl, ifnl_, ifnle, ifnle_, z33 ok, e3]
        exact hq0 e6 _ (a2.wi ⟨rfl, Or.inr rfl⟩) gi_wi_e
      · rw [if_neg hj0]
        simp (disch := omega) only [s82_0, s82_1, s82_2, s82_3, s82_6, s82_7, s82_8, s82_10, s82_11, s82_14, s82_15, s82_18, s82_19, s82_22, s82_25, s82_26, s82_29, s82_30, s82_33, s82_34, s82_37, s82_40, s82_41, s82_42, s82_45, s82_46, s82_47, s82_50, s82_53, s82_54, s82_55, s82_57, s82_58, s82_59, s82_62, s82_63, s82_64, s82_67, s82_68, s82_71, s82_72, s82_73, s82_75, s82_76, s82_77, s82_78, s82_78i, s82_79, s82_82, s82_83, s82_84, s82_87, s82_90, s82_93, s82_94, s82_95, s82_98, s82_99, s82_100, s82_103, s82_106, s82_107, true_or, or_true, or_false, false_or, or_self, Int32.reduceLT, Int32.reduceLE, Nat.add_zero, Nat.zero_add, Nat.not_lt_zero, not_false_eq_true, not_true_eq_false, and_assoc, kl_q, kl_i, kl_r, kl_n, kl_0, kl_l, cs_0, cs_i, cs_r, cs_n, cs_l, aRf_s, aRf_n, gi_wl, gi_wr, gl_wi, gl_wl, gl_wr, gr_wi, gr_wl, gr_wr, sh_wi, sh_wl, sh_wr, gl_cp, gr_cp, sh_cp, gl_rw, gr_rw, sh_rw, gi_rl, gr_rl, sh_rl, Option.toList_some, Option.toList_none, List.nil_append, List.cons_append, List.append_nil, Option.some.injEq, Prod.mk.injEq, and_true, true_and, and_self, if_true, if_false, reduceCtorEq, Nat.reduceLeDiff, Nat.reduceLT, Nat.reduceAdd, Nat.reduceEqDiff, false_and, and_false, exists_const, exists_eq_left, exists_eq_left', exists_and_left, and_assoc, nltL, nltR, nleL, nleR, neqL, neqR, naL, naR, nmL, nmR, nI_ltI, nI_leI, nI_eq, nI_add, nI_mul, nI_clamp, n0l, n0r, nm1, nm1', nm1l, nm1r, nm1g, nsL, nI_m1, Nat.add_sub_cancel, vpn, vpL, nclL, le32, leLL, leLN, leNL, leNN, inA, nb0, nb1, gi_wi_n, gi_wi_e, gi_rw_n, gi_rw_e, aWi_rw, ifl, ifl_, ifle, ifle_, ifq, ifq_, ifnq, ifnq_, ifnl, ifnl_, ifnle, ifnle_, z33 ok, e3]
        exact hq1 j e6 (by omega) hjn (by omega) h' a2 e3 hjT
    rw [s82_9]
    by_cases h3 : q + j < T
    · have e6 := tc2.2.2.2.1 _ h3
      have hb := tc.2.2.2.2 _ h3
      have i1 : q + j < 240 := by omega
      by_cases h4 : isD (B (q + j)) = true
      · have hb2 := isD_b h4
        by_cases hjn2 : j = n
        · subst hjn2
          simp (disch := omega) only [s82_0, s82_1, s82_2, s82_3, s82_6, s82_7, s82_8, s82_10, s82_11, s82_14, s82_15, s82_18, s82_19, s82_22, s82_25, s82_26, s82_29, s82_30, s82_33, s82_34, s82_37, s82_40, s82_41, s82_42, s82_45, s82_46, s82_47, s82_50, s82_53, s82_54, s82_55, s82_57, s82_58, s82_59, s82_62, s82_63, s82_64, s82_67, s82_68, s82_71, s82_72, s82_73, s82_75, s82_76, s82_77, s82_78, s82_78i, s82_79, s82_82, s82_83, s82_84, s82_87, s82_90, s82_93, s82_94, s82_95, s82_98, s82_99, s82_100, s82_103, s82_106, s82_107, true_or, or_true, or_false, false_or, or_self, Int32.reduceLT, Int32.reduceLE, Nat.add_zero, Nat.zero_add, Nat.not_lt_zero, not_false_eq_true, not_true_eq_false, and_assoc, kl_q, kl_i, kl_r, kl_n, kl_0, kl_l, cs_0, cs_i, cs_r, cs_n, cs_l, aRf_s, aRf_n, gi_wl, gi_wr, gl_wi, gl_wl, gl_wr, gr_wi, gr_wl, gr_wr, sh_wi, sh_wl, sh_wr, gl_cp, gr_cp, sh_cp, gl_rw, gr_rw, sh_rw, gi_rl, gr_rl, sh_rl, Option.toList_some, Option.toList_none, List.nil_append, List.cons_append, List.append_nil, Option.some.injEq, Prod.mk.injEq, and_true, true_and, and_self, if_true, if_false, reduceCtorEq, Nat.reduceLeDiff, Nat.reduceLT, Nat.reduceAdd, Nat.reduceEqDiff, false_and, and_false, exists_const, exists_eq_left, exists_eq_left', exists_and_left, and_assoc, nltL, nltR, nleL, nleR, neqL, neqR, naL, naR, nmL, nmR, nI_ltI, nI_leI, nI_eq, nI_add, nI_mul, nI_clamp, n0l, n0r, nm1, nm1', nm1l, nm1r, nm1g, nsL, nI_m1, Nat.add_sub_cancel, vpn, vpL, nclL, le32, leLL, leLN, leNL, leNN, inA, nb0, nb1, gi_wi_n, gi_wi_e, gi_rw_n, gi_rw_e, aWi_rw, ifl, ifl_, ifle, ifle_, ifq, ifq_, ifnq, ifnq_, ifnl, ifnl_, ifnle, ifnle_, z33 ok, z34 ok, r33_0 ok, e3, tc2.2.2.1, e6, i1, c_dig (show B (q + j) < 2 ^ 31 by omega), h4, bI_0, Bool.true_eq_false]
          refine hq2 ?_ _ (a2.wi ⟨rfl, Or.inr rfl⟩) gi_wi_e
          have := dgc_s e4 (by omega) ⟨h3, h4⟩
          rw [this, show j + 1 - (j + 1) = 0 by omega, dgc]
        · have ev : 10 * vlD B q j + B (q + j) - 48 = vlD B q (j + 1) := by
            rw [vlD]
            omega
          have hk' := hk _ (aWi h' 33 2 (nI (q + j + 1))) ⟨by omega, rfl, a2.wi ⟨rfl, Or.inl rfl⟩, gi_wi_e, by omega, dgc_s e4 (by omega) ⟨h3, h4⟩, by
            rw [Nat.pow_succ, vlD]
            omega⟩
          rw [if_neg (by omega)] at hk'
          by_cases hj0 : j = 0
          · subst hj0
            have ei : imax 0 (-1) = 0 := rfl
            have e0 : nI (B (q + 0)) - 48 = nI (vlD B q (0 + 1)) := by
              rw [← ev, vlD, Nat.mul_zero, Nat.zero_add]
              exact nI_sub (b := 48) (by omega)
            rw [Nat.add_zero] at e3 e6 i1 h4 hb hb2 e0
            simp (disch := omega) only [s82_0, s82_1, s82_2, s82_3, s82_6, s82_7, s82_8, s82_10, s82_11, s82_14, s82_15, s82_18, s82_19, s82_22, s82_25, s82_26, s82_29, s82_30, s82_33, s82_34, s82_37, s82_40, s82_41, s82_42, s82_45, s82_46, s82_47, s82_50, s82_53, s82_54, s82_55, s82_57, s82_58, s82_59, s82_62, s82_63, s82_64, s82_67, s82_68, s82_71, s82_72, s82_73, s82_75, s82_76, s82_77, s82_78, s82_78i, s82_79, s82_82, s82_83, s82_84, s82_87, s82_90, s82_93, s82_94, s82_95, s82_98, s82_99, s82_100, s82_103, s82_106, s82_107, true_or, or_true, or_false, false_or, or_self, Int32.reduceLT, Int32.reduceLE, Nat.add_zero, Nat.zero_add, Nat.not_lt_zero, not_false_eq_true, not_true_eq_false, and_assoc, kl_q, kl_i, kl_r, kl_n, kl_0, kl_l, cs_0, cs_i, cs_r, cs_n, cs_l, aRf_s, aRf_n, gi_wl, gi_wr, gl_wi, gl_wl, gl_wr, gr_wi, gr_wl, gr_wr, sh_wi, sh_wl, sh_wr, gl_cp, gr_cp, sh_cp, gl_rw, gr_rw, sh_rw, gi_rl, gr_rl, sh_rl, Option.toList_some, Option.toList_none, List.nil_append, List.cons_append, List.append_nil, Option.some.injEq, Prod.mk.injEq, and_true, true_and, and_self, if_true, if_false, reduceCtorEq, Nat.reduceLeDiff, Nat.reduceLT, Nat.reduceAdd, Nat.reduceEqDiff, false_and, and_false, exists_const, exists_eq_left, exists_eq_left', exists_and_left, and_assoc, gi_wi_n, gi_wi_e, gi_rw_n, gi_rw_e, aWi_rw, ifl, ifl_, ifle, ifle_, ifq, ifq_, ifnq, ifnq_, ifnl, ifnl_, ifnle, ifnle_, z33 ok, z34 ok, r33_0 ok, nltR, nltL, neqL, neqR, nI_ltI, nI_leI, nI_eq, vpn, nI_clamp, inA, naL, e3, tc2.2.2.1, e6, i1, c_dig (show B q < 2 ^ 31 by omega), h4, bI_0, Bool.true_eq_false, sp_max, ei, Int32.mul_zero, Int32.zero_add, e0]
            exact hk'
          · rw [if_neg hj0]
            simp (disch := omega) only [s82_0, s82_1, s82_2, s82_3, s82_6, s82_7, s82_8, s82_10, s82_11, s82_14, s82_15, s82_18, s82_19, s82_22, s82_25, s82_26, s82_29, s82_30, s82_33, s82_34, s82_37, s82_40, s82_41, s82_42, s82_45, s82_46, s82_47, s82_50, s82_53, s82_54, s82_55, s82_57, s82_58, s82_59, s82_62, s82_63, s82_64, s82_67, s82_68, s82_71, s82_72, s82_73, s82_75, s82_76, s82_77, s82_78, s82_78i, s82_79, s82_82, s82_83, s82_84, s82_87, s82_90, s82_93, s82_94, s82_95, s82_98, s82_99, s82_100, s82_103, s82_106, s82_107, true_or, or_true, or_false, false_or, or_self, Int32.reduceLT, Int32.reduceLE, Nat.add_zero, Nat.zero_add, Nat.not_lt_zero, not_false_eq_true, not_true_eq_false, and_assoc, kl_q, kl_i, kl_r, kl_n, kl_0, kl_l, cs_0, cs_i, cs_r, cs_n, cs_l, aRf_s, aRf_n, gi_wl, gi_wr, gl_wi, gl_wl, gl_wr, gr_wi, gr_wl, gr_wr, sh_wi, sh_wl, sh_wr, gl_cp, gr_cp, sh_cp, gl_rw, gr_rw, sh_rw, gi_rl, gr_rl, sh_rl, Option.toList_some, Option.toList_none, List.nil_append, List.cons_append, List.append_nil, Option.some.injEq, Prod.mk.injEq, and_true, true_and, and_self, if_true, if_false, reduceCtorEq, Nat.reduceLeDiff, Nat.reduceLT, Nat.reduceAdd, Nat.reduceEqDiff, false_and, and_false, exists_const, exists_eq_left, exists_eq_left', exists_and_left, and_assoc, nltL, nltR, nleL, nleR, neqL, neqR, naL, naR, nmL, nmR, nI_ltI, nI_leI, nI_eq, nI_add, nI_mul, nI_clamp, n0l, n0r, nm1, nm1', nm1l, nm1r, nm1g, nsL, nI_m1, Nat.add_sub_cancel, vpn, vpL, nclL, le32, leLL, leLN, leNL, leNN, inA, nb0, nb1, gi_wi_n, gi_wi_e, gi_rw_n, gi_rw_e, aWi_rw, ifl, ifl_, ifle, ifle_, ifq, ifq_, ifnq, ifnq_, ifnl, ifnl_, ifnle, ifnle_, z33 ok, z34 ok, r33_0 ok, e3, tc2.2.2.1, e6, i1, c_dig (show B (q + j) < 2 ^ 31 by omega), h4, bI_0, Bool.true_eq_false, sp_max, imax0, ev]
            exact hk'
      · have h4' : isD (B (q + j)) = false := by
          cases hh : isD (B (q + j))
          · rfl
          · exact absurd hh h4
        simp (disch := omega) only [s82_10, s82_11, s82_14, s82_15, s82_18, s82_19, s82_22, s82_25, s82_26, s82_29, s82_30, s82_33, s82_34, s82_37, s82_40, s82_41, s82_42, s82_45, s82_46, s82_47, s82_50, s82_53, s82_54, s82_55, s82_57, s82_58, s82_59, s82_62, s82_63, s82_64, s82_67, s82_68, s82_71, s82_72, s82_73, s82_75, s82_76, s82_77, s82_78, s82_78i, s82_79, s82_82, s82_83, s82_84, s82_87, s82_90, true_or, or_true, or_false, false_or, or_self, Int32.reduceLT, Int32.reduceLE, Nat.add_zero, Nat.zero_add, Nat.not_lt_zero, not_false_eq_true, not_true_eq_false, and_assoc, kl_q, kl_i, kl_r, kl_n, kl_0, kl_l, cs_0, cs_i, cs_r, cs_n, cs_l, aRf_s, aRf_n, gi_wl, gi_wr, gl_wi, gl_wl, gl_wr, gr_wi, gr_wl, gr_wr, sh_wi, sh_wl, sh_wr, gl_cp, gr_cp, sh_cp, gl_rw, gr_rw, sh_rw, gi_rl, gr_rl, sh_rl, Option.toList_some, Option.toList_none, List.nil_append, List.cons_append, List.append_nil, Option.some.injEq, Prod.mk.injEq, and_true, true_and, and_self, if_true, if_false, reduceCtorEq, Nat.reduceLeDiff, Nat.reduceLT, Nat.reduceAdd, Nat.reduceEqDiff, false_and, and_false, exists_const, exists_eq_left, exists_eq_left', exists_and_left, and_assoc, nltL, nltR, nleL, nleR, neqL, neqR, naL, naR, nmL, nmR, nI_ltI, nI_leI, nI_eq, nI_add, nI_mul, nI_clamp, n0l, n0r, nm1, nm1', nm1l, nm1r, nm1g, nsL, nI_m1, Nat.add_sub_cancel, vpn, vpL, nclL, le32, leLL, leLN, leNL, leNN, inA, nb0, nb1, gi_wi_n, gi_wi_e, gi_rw_n, gi_rw_e, aWi_rw, ifl, ifl_, ifle, ifle_, ifq, ifq_, ifnq, ifnq_, ifnl, ifnl_, ifnle, ifnle_, z33 ok, z34 ok, r33_0 ok, e3, tc2.2.2.1, e6, i1, c_dig (show B (q + j) < 2 ^ 31 by omega), h4', bI_0]
        exact stop (fun z => h4 z.2)
    · simp (disch := omega) only [s82_10, s82_11, s82_14, s82_15, s82_18, s82_19, s82_22, s82_25, s82_26, s82_29, s82_30, s82_33, s82_34, s82_37, s82_40, s82_41, s82_42, s82_45, s82_46, s82_47, s82_50, s82_53, s82_54, s82_55, s82_57, s82_58, s82_59, s82_62, s82_63, s82_64, s82_67, s82_68, s82_71, s82_72, s82_73, s82_75, s82_76, s82_77, s82_78, s82_78i, s82_79, s82_82, s82_83, s82_84, s82_87, s82_90, true_or, or_true, or_false, false_or, or_self, Int32.reduceLT, Int32.reduceLE, Nat.add_zero, Nat.zero_add, Nat.not_lt_zero, not_false_eq_true, not_true_eq_false, and_assoc, kl_q, kl_i, kl_r, kl_n, kl_0, kl_l, cs_0, cs_i, cs_r, cs_n, cs_l, aRf_s, aRf_n, gi_wl, gi_wr, gl_wi, gl_wl, gl_wr, gr_wi, gr_wl, gr_wr, sh_wi, sh_wl, sh_wr, gl_cp, gr_cp, sh_cp, gl_rw, gr_rw, sh_rw, gi_rl, gr_rl, sh_rl, Option.toList_some, Option.toList_none, List.nil_append, List.cons_append, List.append_nil, Option.some.injEq, Prod.mk.injEq, and_true, true_and, and_self, if_true, if_false, reduceCtorEq, Nat.reduceLeDiff, Nat.reduceLT, Nat.reduceAdd, Nat.reduceEqDiff, false_and, and_false, exists_const, exists_eq_left, exists_eq_left', exists_and_left, and_assoc, nltL, nltR, nleL, nleR, neqL, neqR, naL, naR, nmL, nmR, nI_ltI, nI_leI, nI_eq, nI_add, nI_mul, nI_clamp, n0l, n0r, nm1, nm1', nm1l, nm1r, nm1g, nsL, nI_m1, Nat.add_sub_cancel, vpn, vpL, nclL, le32, leLL, leLN, leNL, leNN, inA, nb0, nb1, gi_wi_n, gi_wi_e, gi_rw_n, gi_rw_e, aWi_rw, ifl, ifl_, ifle, ifle_, ifq, ifq_, ifnq, ifnq_, ifnl, ifnl_, ifnle, ifnle_, z33 ok, z34 ok, r33_0 ok, e3, tc2.2.2.1]
      exact stop (fun z => h3 z.1)
  · rintro lv h' ⟨hjn, -⟩
    omega
end T2
