-- deps: 59.ops5
section O8
variable {d : Nat} {g h : aM} {Q : Option Value → aM → Prop} {M F L W N D c nx n T : Nat} {s : Nat → Int32} {lg ks : Nat → Nat → Int32} {Dk : Nat → Nat}
theorem fmod_n {a : Nat} (ha : a < 2 ^ 31) : fmod (nI a) 100 = nI (a % 100) := by
  have e0 : (0 : Int32).toInt = 0 := rfl
  have h1 : nI a - nI a / 100 * 100 = nI (a % 100) := nI_rem (b := 100) ha (by omega)
  unfold fmod
  have h2 : (0 : Int32) ≤ nI a ^^^ 100 := by
    apply Int32.not_lt.mp
    intro q
    have h3 : ¬ nI a < 0 := nI_pos ha
    have : (nI a ^^^ 100).toBitVec.msb = true := by
      rw [BitVec.msb_eq_toInt, decide_eq_true_eq]
      rw [lti, e0] at q
      exact q
    rw [Int32.toBitVec_xor, BitVec.msb_xor] at this
    have m1 : (nI a).toBitVec.msb = false := by
      rw [BitVec.msb_eq_toInt, decide_eq_false_iff_not]
      rw [lti, e0] at h3
      exact h3
    have m2 : (100 : Int32).toBitVec.msb = false := by decide
    rw [m1, m2] at this
    cases this
  rw [if_pos h2, h1]
theorem inR_m1' {k : Nat} {a : Int32} (hM : k ≤ 1000) : inR a 0 (nI k - 1) = decide (0 ≤ a ∧ a < nI k) := by
  unfold inR
  congr 1
  have e : (nI k).toInt = k := nI_toInt (by omega)
  have e1 : (1 : Int32).toInt = 1 := rfl
  have e0 : (0 : Int32).toInt = 0 := rfl
  simp only [lei, lti, sbi, e, e1, e0]
  apply propext
  have := rgi a
  constructor
  · rintro ⟨h1, h2⟩
    refine ⟨h1, ?_⟩
    omega
  · rintro ⟨h1, h2⟩
    refine ⟨h1, ?_⟩
    omega
theorem imin60 {D : Nat} (h : D ≤ 999) : imin 60 (nI D) = nI (min 60 D) := by
  unfold imin
  by_cases h1 : D < 60
  · rw [if_pos (show nI D < (60 : Int32) from (nI_ltI (b := 60) (by omega) (by omega)).mpr h1), Nat.min_eq_right (by omega)]
  · rw [if_neg (show ¬ nI D < (60 : Int32) from fun q => h1 ((nI_ltI (b := 60) (by omega) (by omega)).mp q)), Nat.min_eq_left (by omega)]
    rfl
theorem a_log (a b : Int32) : Act 118 238 [some (.ref 32), some (.int a), some (.int b)] [some (.ref 399), some (.int a), some (.int b)] := by
  rintro g d ⟨M, F, L, W, N, D, c, nx, n, T, s, lg, ks, Dk, i⟩
  obtain ⟨i1, i2, i3, i4, ⟨i5, i6, i7⟩, ⟨i8, i9⟩, i10, i11, i12, i13, i14, i15, i16⟩ := id i
  have it := i2
  have hM : M ≤ 6 := it.1
  have hM' : M ≤ 10 := by omega
  have hF : F ≤ 5 := it.2.1
  have hF' : F ≤ 10 := by omega
  have hL : L ≤ 30 := it.2.2.1
  have hW : W ≤ 20 := it.2.2.2.1
  have hc40 := i11.1
  have hnx := i11.2.1
  obtain ⟨r1, r2, r3, r4, r5, r6, r7, r8⟩ := rd58' it
  obtain ⟨w1, w2, w3, w4, w5, w6⟩ := rdS i5
  have ok := i1
  have inv : Inv g := ⟨M, F, L, W, N, D, c, nx, n, T, s, lg, ks, Dk, i⟩
  have eD := i10.2.2.2.1
  have hD := i10.2.2.2.2
  rw [eD] at w6
  have x33 : gi g 416 33 = nI (min 60 D) := by
    have := i8.2.1
    rw [Nat.zero_add] at this
    exact this
  have hm60 := imin60 hD
  have h0d := kb_0 i11
  have hlt : ∀ v : Int32, inR v 0 (nI (min 60 D) - 1) = decide (0 ≤ v ∧ v < nI (min 60 D)) := fun v => inR_m1' (by omega)
  by_cases h1 : 0 ≤ a ∧ a < nI (min 60 D)
  · obtain ⟨j, hj, rfl⟩ := nI_of (Int32.not_lt.mpr h1.1)
    have hj2 := (nI_ltI hj (by omega)).mp h1.2
    have hin : inR (nI j) 0 (nI (min 60 D) - 1) = true := by
      rw [hlt]
      exact decide_eq_true h1
    have e1 : nI D - 1 = nI (D - 1) := nI_sub (b := 1) (by omega)
    have e2 : nI (D - 1) - nI j = nI (D - 1 - j) := nI_sub (by omega)
    have e3 := fmod_n (a := D - 1 - j) (by omega)
    have k100 : (D - 1 - j) % 100 < 100 := Nat.mod_lt _ (by omega)
    have f1 : nI (min 60 D) - 1 = nI (min 60 D - 1) := nI_sub (b := 1) (by omega)
    have f2 : nI (min 60 D - 1) - nI j = nI (min 60 D - 1 - j) := nI_sub (by omega)
    rcases inR3 (n := 2) (lit := 2) (by omega) rfl b with ⟨hi, hb⟩ | ⟨hi, q, hq, hq2, rfl⟩ | ⟨hi, w, hw, rfl⟩
    · have hd : b.toInt < 0 ∨ 2 < b.toInt := Or.inl (lti.mp hb)
      simp (disch := omega) only [s118_0, s118_1, s118_4, s118_5, s118_6, s118_9, s118_12, s118_15, s118_18, s118_19, s118_20, s118_21, s118_24, s118_25, s118_28, s118_31, s118_32, s118_33, s118_36, s24_0, s24_2, s24_3, s24_6, s26_0, s26_1, s26_2, s26_3, s26_4, s26_5, s26_7, s26_10, s26_12, s26_13_0, s26_13_1, s26_13_2, s26_40, s26_41, s26_44, s26_46, s26_47, s26_48, s26_49, s26_52, s26_54, s26_55, s26_56, s26_57, s26_60, s26_62, s26_63, s26_64, s26_65, s26_13_d hd, true_or, or_true, or_false, false_or, or_self, Int32.reduceLT, Int32.reduceLE, Nat.add_zero, Nat.zero_add, Nat.not_lt_zero, not_false_eq_true, not_true_eq_false, and_assoc, kl_q, kl_i, kl_r, kl_n, kl_0, kl_l, cs_0, cs_i, cs_r, cs_n, cs_l, aRf_s, aRf_n, gi_wl, gi_wr, gl_wi, gl_wl, gl_wr, gr_wi, gr_wl, gr_wr, sh_wi, sh_wl, sh_wr, gl_cp, gr_cp, sh_cp, gl_rw, gr_rw, sh_rw, gi_rl, gr_rl, sh_rl, Option.toList_some, Option.toList_none, List.nil_append, List.cons_append, List.append_nil, Option.some.injEq, Prod.mk.injEq, and_true, true_and, and_self, if_true, if_false, reduceCtorEq, Nat.reduceLeDiff, Nat.reduceLT, Nat.reduceAdd, Nat.reduceEqDiff, false_and, and_false, exists_const, exists_eq_left, exists_eq_left', exists_and_left, and_assoc, nltL, nltR, nleL, nleR, neqL, neqR, naL, naR, nmL, nmR, nI_ltI, nI_leI, nI_eq, nI_add, nI_mul, nI_clamp, n0l, n0r, nm1, nm1', nm1l, nm1r, nm1g, nsL, nI_m1, Nat.add_sub_cancel, vpn, vpL, nclL, le32, leLL, leLN, leNL, leNN, inA, nb0, nb1, gi_wi_n, gi_wi_e, gi_rw_n, gi_rw_e, aWi_rw, ifl, ifl_, ifle, ifle_, ifq, ifq_, ifnq, ifnq_, ifnl, ifnl_, ifnle, ifnle_, z32 ok, z79 ok, z85 ok, r32_5 ok, r32_6 ok, w6, sp_min, hm60, sp_fmod, e1, e2, e3]
      refine ⟨-1, rfl, ?_⟩
      simp (disch := omega) only [s238_0, s238_1, s238_2, s238_3, s238_6, s238_8, s238_9, s238_10, s238_11, s238_14, s238_17, s238_18, s238_19, s238_20, s238_23, s238_26, s238_27, s238_30, s238_32, s238_33, s238_34, s238_37, s238_39, s238_40, s238_41, s238_42, s238_43, s238_44, s238_45, s238_46, s238_47, s238_48, s238_49, s238_52, s238_53, true_or, or_true, or_false, false_or, or_self, Int32.reduceLT, Int32.reduceLE, Nat.add_zero, Nat.zero_add, Nat.not_lt_zero, not_false_eq_true, not_true_eq_false, and_assoc, kl_q, kl_i, kl_r, kl_n, kl_0, kl_l, cs_0, cs_i, cs_r, cs_n, cs_l, aRf_s, aRf_n, gi_wl, gi_wr, gl_wi, gl_wl, gl_wr, gr_wi, gr_wl, gr_wr, sh_wi, sh_wl, sh_wr, gl_cp, gr_cp, sh_cp, gl_rw, gr_rw, sh_rw, gi_rl, gr_rl, sh_rl, Option.toList_some, Option.toList_none, List.nil_append, List.cons_append, List.append_nil, Option.some.injEq, Prod.mk.injEq, and_true, true_and, and_self, if_true, if_false, reduceCtorEq, Nat.reduceLeDiff, Nat.reduceLT, Nat.reduceAdd, Nat.reduceEqDiff, false_and, and_false, exists_const, exists_eq_left, exists_eq_left', exists_and_left, and_assoc, gi_wi_n, gi_wi_e, gi_rw_n, gi_rw_e, aWi_rw, ifl, ifl_, ifle, ifle_, ifq, ifq_, ifnq, ifnq_, ifnl, ifnl_, ifnle, ifnle_, nb0, nb1, Nat.reduceLT, z399 ok, z416 ok, r399_27 ok, inA, vpL, nclL, x33, m_in, hin, hi, bI_0, Bool.true_eq_false]
      exact inv
    · have hd : (nI q).toInt < 0 ∨ 2 < (nI q).toInt := by
        rw [nI_toInt hq2]
        omega
      simp (disch := omega) only [s118_0, s118_1, s118_4, s118_5, s118_6, s118_9, s118_12, s118_15, s118_18, s118_19, s118_20, s118_21, s118_24, s118_25, s118_28, s118_31, s118_32, s118_33, s118_36, s24_0, s24_2, s24_3, s24_6, s26_0, s26_1, s26_2, s26_3, s26_4, s26_5, s26_7, s26_10, s26_12, s26_13_0, s26_13_1, s26_13_2, s26_40, s26_41, s26_44, s26_46, s26_47, s26_48, s26_49, s26_52, s26_54, s26_55, s26_56, s26_57, s26_60, s26_62, s26_63, s26_64, s26_65, s26_13_d hd, true_or, or_true, or_false, false_or, or_self, Int32.reduceLT, Int32.reduceLE, Nat.add_zero, Nat.zero_add, Nat.not_lt_zero, not_false_eq_true, not_true_eq_false, and_assoc, kl_q, kl_i, kl_r, kl_n, kl_0, kl_l, cs_0, cs_i, cs_r, cs_n, cs_l, aRf_s, aRf_n, gi_wl, gi_wr, gl_wi, gl_wl, gl_wr, gr_wi, gr_wl, gr_wr, sh_wi, sh_wl, sh_wr, gl_cp, gr_cp, sh_cp, gl_rw, gr_rw, sh_rw, gi_rl, gr_rl, sh_rl, Option.toList_some, Option.toList_none, List.nil_append, List.cons_append, List.append_nil, Option.some.injEq, Prod.mk.injEq, and_true, true_and, and_self, if_true, if_false, reduceCtorEq, Nat.reduceLeDiff, Nat.reduceLT, Nat.reduceAdd, Nat.reduceEqDiff, false_and, and_false, exists_const, exists_eq_left, exists_eq_left', exists_and_left, and_assoc, nltL, nltR, nleL, nleR, neqL, neqR, naL, naR, nmL, nmR, nI_ltI, nI_leI, nI_eq, nI_add, nI_mul, nI_clamp, n0l, n0r, nm1, nm1', nm1l, nm1r, nm1g, nsL, nI_m1, Nat.add_sub_cancel, vpn, vpL, nclL, le32, leLL, leLN, leNL, leNN, inA, nb0, nb1, gi_wi_n, gi_wi_e, gi_rw_n, gi_rw_e, aWi_rw, ifl, ifl_, ifle, ifle_, ifq, ifq_, ifnq, ifnq_, ifnl, ifnl_, ifnle, ifnle_, z32 ok, z79 ok, z85 ok, r32_5 ok, r32_6 ok, w6, sp_min, hm60, sp_fmod, e1, e2, e3]
      refine ⟨-1, rfl, ?_⟩
      simp (disch := omega) only [s238_0, s238_1, s238_2, s238_3, s238_6, s238_8, s238_9, s238_10, s238_11, s238_14, s238_17, s238_18, s238_19, s238_20, s238_23, s238_26, s238_27, s238_30, s238_32, s238_33, s238_34, s238_37, s238_39, s238_40, s238_41, s238_42, s238_43, s238_44, s238_45, s238_46, s238_47, s238_48, s238_49, s238_52, s238_53, true_or, or_true, or_false, false_or, or_self, Int32.reduceLT, Int32.reduceLE, Nat.add_zero, Nat.zero_add, Nat.not_lt_zero, not_false_eq_true, not_true_eq_false, and_assoc, kl_q, kl_i, kl_r, kl_n, kl_0, kl_l, cs_0, cs_i, cs_r, cs_n, cs_l, aRf_s, aRf_n, gi_wl, gi_wr, gl_wi, gl_wl, gl_wr, gr_wi, gr_wl, gr_wr, sh_wi, sh_wl, sh_wr, gl_cp, gr_cp, sh_cp, gl_rw, gr_rw, sh_rw, gi_rl, gr_rl, sh_rl, Option.toList_some, Option.toList_none, List.nil_append, List.cons_append, List.append_nil, Option.some.injEq, Prod.mk.injEq, and_true, true_and, and_self, if_true, if_false, reduceCtorEq, Nat.reduceLeDiff, Nat.reduceLT, Nat.reduceAdd, Nat.reduceEqDiff, false_and, and_false, exists_const, exists_eq_left, exists_eq_left', exists_and_left, and_assoc, gi_wi_n, gi_wi_e, gi_rw_n, gi_rw_e, aWi_rw, ifl, ifl_, ifle, ifle_, ifq, ifq_, ifnq, ifnq_, ifnl, ifnl_, ifnle, ifnle_, nb0, nb1, Nat.reduceLT, z399 ok, z416 ok, r399_27 ok, inA, vpL, nclL, x33, m_in, hin, hi, bI_0, Bool.true_eq_false]
      exact inv
    · have dl := i7 (D - 1 - j) (by omega) (by omega) w (by omega)
      have ml := i8.2.2 (D - 1 - j) (by omega) (by omega) w (by omega)
      rw [Nat.zero_add, show D - 1 - j - (D - 60) = min 60 D - 1 - j by omega] at ml
      have i1' : 34 + 3 * (min 60 D - 1 - j) + w < 214 := by omega
      have hw3 : w = 0 ∨ w = 1 ∨ w = 2 := by omega
      have hc : AW (d + 24) 238 0 [some (.ref 399), some (.int (nI j)), some (.int (nI w))] [] g (fun v' h2 => v' = some (.int (lg (D - 1 - j) w)) ∧ Inv h2) := by
        simp (disch := omega) only [s238_0, s238_1, s238_2, s238_3, s238_6, s238_8, s238_9, s238_10, s238_11, s238_14, s238_17, s238_18, s238_19, s238_20, s238_23, s238_26, s238_27, s238_30, s238_32, s238_33, s238_34, s238_37, s238_39, s238_40, s238_41, s238_42, s238_43, s238_44, s238_45, s238_46, s238_47, s238_48, s238_49, s238_52, s238_53, true_or, or_true, or_false, false_or, or_self, Int32.reduceLT, Int32.reduceLE, Nat.add_zero, Nat.zero_add, Nat.not_lt_zero, not_false_eq_true, not_true_eq_false, and_assoc, kl_q, kl_i, kl_r, kl_n, kl_0, kl_l, cs_0, cs_i, cs_r, cs_n, cs_l, aRf_s, aRf_n, gi_wl, gi_wr, gl_wi, gl_wl, gl_wr, gr_wi, gr_wl, gr_wr, sh_wi, sh_wl, sh_wr, gl_cp, gr_cp, sh_cp, gl_rw, gr_rw, sh_rw, gi_rl, gr_rl, sh_rl, Option.toList_some, Option.toList_none, List.nil_append, List.cons_append, List.append_nil, Option.some.injEq, Prod.mk.injEq, and_true, true_and, and_self, if_true, if_false, reduceCtorEq, Nat.reduceLeDiff, Nat.reduceLT, Nat.reduceAdd, Nat.reduceEqDiff, false_and, and_false, exists_const, exists_eq_left, exists_eq_left', exists_and_left, and_assoc, gi_wi_n, gi_wi_e, gi_rw_n, gi_rw_e, aWi_rw, ifl, ifl_, ifle, ifle_, ifq, ifq_, ifnq, ifnq_, ifnl, ifnl_, ifnle, ifnle_, nb0, nb1, Nat.reduceLT, z399 ok, z416 ok, r399_27 ok, inA, vpL, nclL, x33, m_in, hin, hi, bI_0, Bool.true_eq_false]
        simp (disch := omega) only [s238_0, s238_1, s238_2, s238_3, s238_6, s238_8, s238_9, s238_10, s238_11, s238_14, s238_17, s238_18, s238_19, s238_20, s238_23, s238_26, s238_27, s238_30, s238_32, s238_33, s238_34, s238_37, s238_39, s238_40, s238_41, s238_42, s238_43, s238_44, s238_45, s238_46, s238_47, s238_48, s238_49, s238_52, s238_53, true_or, or_true, or_false, false_or, or_self, Int32.reduceLT, Int32.reduceLE, Nat.add_zero, Nat.zero_add, Nat.not_lt_zero, not_false_eq_true, not_true_eq_false, and_assoc, kl_q, kl_i, kl_r, kl_n, kl_0, kl_l, cs_0, cs_i, cs_r, cs_n, cs_l, aRf_s, aRf_n, gi_wl, gi_wr, gl_wi, gl_wl, gl_wr, gr_wi, gr_wl, gr_wr, sh_wi, sh_wl, sh_wr, gl_cp, gr_cp, sh_cp, gl_rw, gr_rw, sh_rw, gi_rl, gr_rl, sh_rl, Option.toList_some, Option.toList_none, List.nil_append, List.cons_append, List.append_nil, Option.some.injEq, Prod.mk.injEq, and_true, true_and, and_self, if_true, if_false, reduceCtorEq, Nat.reduceLeDiff, Nat.reduceLT, Nat.reduceAdd, Nat.reduceEqDiff, false_and, and_false, exists_const, exists_eq_left, exists_eq_left', exists_and_left, and_assoc, nltL, nltR, nleL, nleR, neqL, neqR, naL, naR, nmL, nmR, nI_ltI, nI_leI, nI_eq, nI_add, nI_mul, nI_clamp, n0l, n0r, nm1, nm1', nm1l, nm1r, nm1g, nsL, nI_m1, Nat.add_sub_cancel, vpn, vpL, nclL, le32, leLL, leLN, leNL, leNN, inA, nb0, nb1, gi_wi_n, gi_wi_e, gi_rw_n, gi_rw_e, aWi_rw, ifl, ifl_, ifle, ifle_, ifq, ifq_, ifnq, ifnq_, ifnl, ifnl_, ifnle, ifnle_, z399 ok, z416 ok, r399_27 ok, f1, f2, i1', ml]
        exact inv
      rcases hw3 with rfl | rfl | rfl
      · rw [show nI 0 = (0 : Int32) from rfl] at hc ⊢
        simp (disch := omega) only [s118_0, s118_1, s118_4, s118_5, s118_6, s118_9, s118_12, s118_15, s118_18, s118_19, s118_20, s118_21, s118_24, s118_25, s118_28, s118_31, s118_32, s118_33, s118_36, s24_0, s24_2, s24_3, s24_6, s26_0, s26_1, s26_2, s26_3, s26_4, s26_5, s26_7, s26_10, s26_12, s26_13_0, s26_13_1, s26_13_2, s26_40, s26_41, s26_44, s26_46, s26_47, s26_48, s26_49, s26_52, s26_54, s26_55, s26_56, s26_57, s26_60, s26_62, s26_63, s26_64, s26_65, true_or, or_true, or_false, false_or, or_self, Int32.reduceLT, Int32.reduceLE, Nat.add_zero, Nat.zero_add, Nat.not_lt_zero, not_false_eq_true, not_true_eq_false, and_assoc, kl_q, kl_i, kl_r, kl_n, kl_0, kl_l, cs_0, cs_i, cs_r, cs_n, cs_l, aRf_s, aRf_n, gi_wl, gi_wr, gl_wi, gl_wl, gl_wr, gr_wi, gr_wl, gr_wr, sh_wi, sh_wl, sh_wr, gl_cp, gr_cp, sh_cp, gl_rw, gr_rw, sh_rw, gi_rl, gr_rl, sh_rl, Option.toList_some, Option.toList_none, List.nil_append, List.cons_append, List.append_nil, Option.some.injEq, Prod.mk.injEq, and_true, true_and, and_self, if_true, if_false, reduceCtorEq, Nat.reduceLeDiff, Nat.reduceLT, Nat.reduceAdd, Nat.reduceEqDiff, false_and, and_false, exists_const, exists_eq_left, exists_eq_left', exists_and_left, and_assoc, nltL, nltR, nleL, nleR, neqL, neqR, naL, naR, nmL, nmR, nI_ltI, nI_leI, nI_eq, nI_add, nI_mul, nI_clamp, n0l, n0r, nm1, nm1', nm1l, nm1r, nm1g, nsL, nI_m1, Nat.add_sub_cancel, vpn, vpL, nclL, le32, leLL, leLN, leNL, leNN, inA, nb0, nb1, gi_wi_n, gi_wi_e, gi_rw_n, gi_rw_e, aWi_rw, ifl, ifl_, ifle, ifle_, ifq, ifq_, ifnq, ifnq_, ifnl, ifnl_, ifnle, ifnle_, z32 ok, z79 ok, z85 ok, z86 ok, r32_5 ok, r32_6 ok, r85_0 ok, w6, sp_min, hm60, sp_fmod, e1, e2, e3, k100]
        exact ⟨_, by rw [dl], hc⟩
      · rw [show nI 1 = (1 : Int32) from rfl] at hc ⊢
        simp (disch := omega) only [s118_0, s118_1, s118_4, s118_5, s118_6, s118_9, s118_12, s118_15, s118_18, s118_19, s118_20, s118_21, s118_24, s118_25, s118_28, s118_31, s118_32, s118_33, s118_36, s24_0, s24_2, s24_3, s24_6, s26_0, s26_1, s26_2, s26_3, s26_4, s26_5, s26_7, s26_10, s26_12, s26_13_0, s26_13_1, s26_13_2, s26_40, s26_41, s26_44, s26_46, s26_47, s26_48, s26_49, s26_52, s26_54, s26_55, s26_56, s26_57, s26_60, s26_62, s26_63, s26_64, s26_65, true_or, or_true, or_false, false_or, or_self, Int32.reduceLT, Int32.reduceLE, Nat.add_zero, Nat.zero_add, Nat.not_lt_zero, not_false_eq_true, not_true_eq_false, and_assoc, kl_q, kl_i, kl_r, kl_n, kl_0, kl_l, cs_0, cs_i, cs_r, cs_n, cs_l, aRf_s, aRf_n, gi_wl, gi_wr, gl_wi, gl_wl, gl_wr, gr_wi, gr_wl, gr_wr, sh_wi, sh_wl, sh_wr, gl_cp, gr_cp, sh_cp, gl_rw, gr_rw, sh_rw, gi_rl, gr_rl, sh_rl, Option.toList_some, Option.toList_none, List.nil_append, List.cons_append, List.append_nil, Option.some.injEq, Prod.mk.injEq, and_true, true_and, and_self, if_true, if_false, reduceCtorEq, Nat.reduceLeDiff, Nat.reduceLT, Nat.reduceAdd, Nat.reduceEqDiff, false_and, and_false, exists_const, exists_eq_left, exists_eq_left', exists_and_left, and_assoc, nltL, nltR, nleL, nleR, neqL, neqR, naL, naR, nmL, nmR, nI_ltI, nI_leI, nI_eq, nI_add, nI_mul, nI_clamp, n0l, n0r, nm1, nm1', nm1l, nm1r, nm1g, nsL, nI_m1, Nat.add_sub_cancel, vpn, vpL, nclL, le32, leLL, leLN, leNL, leNN, inA, nb0, nb1, gi_wi_n, gi_wi_e, gi_rw_n, gi_rw_e, aWi_rw, ifl, ifl_, ifle, ifle_, ifq, ifq_, ifnq, ifnq_, ifnl, ifnl_, ifnle, ifnle_, z32 ok, z79 ok, z85 ok, z87 ok, r32_5 ok, r32_6 ok, r85_1 ok, w6, sp_min, hm60, sp_fmod, e1, e2, e3, k100]
        exact ⟨_, by rw [dl], hc⟩
      · rw [show nI 2 = (2 : Int32) from rfl] at hc ⊢
        simp (disch := omega) only [s118_0, s118_1, s118_4, s118_5, s118_6, s118_9, s118_12, s118_15, s118_18, s118_19, s118_20, s118_21, s118_24, s118_25, s118_28, s118_31, s118_32, s118_33, s118_36, s24_0, s24_2, s24_3, s24_6, s26_0, s26_1, s26_2, s26_3, s26_4, s26_5, s26_7, s26_10, s26_12, s26_13_0, s26_13_1, s26_13_2, s26_40, s26_41, s26_44, s26_46, s26_47, s26_48, s26_49, s26_52, s26_54, s26_55, s26_56, s26_57, s26_60, s26_62, s26_63, s26_64, s26_65, true_or, or_true, or_false, false_or, or_self, Int32.reduceLT, Int32.reduceLE, Nat.add_zero, Nat.zero_add, Nat.not_lt_zero, not_false_eq_true, not_true_eq_false, and_assoc, kl_q, kl_i, kl_r, kl_n, kl_0, kl_l, cs_0, cs_i, cs_r, cs_n, cs_l, aRf_s, aRf_n, gi_wl, gi_wr, gl_wi, gl_wl, gl_wr, gr_wi, gr_wl, gr_wr, sh_wi, sh_wl, sh_wr, gl_cp, gr_cp, sh_cp, gl_rw, gr_rw, sh_rw, gi_rl, gr_rl, sh_rl, Option.toList_some, Option.toList_none, List.nil_append, List.cons_append, List.append_nil, Option.some.injEq, Prod.mk.injEq, and_true, true_and, and_self, if_true, if_false, reduceCtorEq, Nat.reduceLeDiff, Nat.reduceLT, Nat.reduceAdd, Nat.reduceEqDiff, false_and, and_false, exists_const, exists_eq_left, exists_eq_left', exists_and_left, and_assoc, nltL, nltR, nleL, nleR, neqL, neqR, naL, naR, nmL, nmR, nI_ltI, nI_leI, nI_eq, nI_add, nI_mul, nI_clamp, n0l, n0r, nm1, nm1', nm1l, nm1r, nm1g, nsL, nI_m1, Nat.add_sub_cancel, vpn, vpL, nclL, le32, leLL, leLN, leNL, leNN, inA, nb0, nb1, gi_wi_n, gi_wi_e, gi_rw_n, gi_rw_e, aWi_rw, ifl, ifl_, ifle, ifle_, ifq, ifq_, ifnq, ifnq_, ifnl, ifnl_, ifnle, ifnle_, z32 ok, z79 ok, z85 ok, z88 ok, r32_5 ok, r32_6 ok, r85_2 ok, w6, sp_min, hm60, sp_fmod, e1, e2, e3, k100]
        exact ⟨_, by rw [dl], hc⟩
  · have hin : inR a 0 (nI (min 60 D) - 1) = false := by
      rw [hlt]
      exact decide_eq_false h1
    by_cases h2 : a < 0
    · simp (disch := omega) only [s118_0, s118_1, s118_4, s118_5, s118_6, s118_9, s118_12, s118_15, s118_18, s118_19, s118_20, s118_21, s118_24, s118_25, s118_28, s118_31, s118_32, s118_33, s118_36, s24_0, s24_2, s24_3, s24_6, true_or, or_true, or_false, false_or, or_self, Int32.reduceLT, Int32.reduceLE, Nat.add_zero, Nat.zero_add, Nat.not_lt_zero, not_false_eq_true, not_true_eq_false, and_assoc, kl_q, kl_i, kl_r, kl_n, kl_0, kl_l, cs_0, cs_i, cs_r, cs_n, cs_l, aRf_s, aRf_n, gi_wl, gi_wr, gl_wi, gl_wl, gl_wr, gr_wi, gr_wl, gr_wr, sh_wi, sh_wl, sh_wr, gl_cp, gr_cp, sh_cp, gl_rw, gr_rw, sh_rw, gi_rl, gr_rl, sh_rl, Option.toList_some, Option.toList_none, List.nil_append, List.cons_append, List.append_nil, Option.some.injEq, Prod.mk.injEq, and_true, true_and, and_self, if_true, if_false, reduceCtorEq, Nat.reduceLeDiff, Nat.reduceLT, Nat.reduceAdd, Nat.reduceEqDiff, false_and, and_false, exists_const, exists_eq_left, exists_eq_left', exists_and_left, and_assoc, nltL, nltR, nleL, nleR, neqL, neqR, naL, naR, nmL, nmR, nI_ltI, nI_leI, nI_eq, nI_add, nI_mul, nI_clamp, n0l, n0r, nm1, nm1', nm1l, nm1r, nm1g, nsL, nI_m1, Nat.add_sub_cancel, vpn, vpL, nclL, le32, leLL, leLN, leNL, leNN, inA, nb0, nb1, gi_wi_n, gi_wi_e, gi_rw_n, gi_rw_e, aWi_rw, ifl, ifl_, ifle, ifle_, ifq, ifq_, ifnq, ifnq_, ifnl, ifnl_, ifnle, ifnle_, z32 ok, z79 ok, r32_5 ok, w6, sp_min, hm60, h2]
      refine ⟨-1, rfl, ?_⟩
      simp (disch := omega) only [s238_0, s238_1, s238_2, s238_3, s238_6, s238_8, s238_9, s238_10, s238_11, s238_14, s238_17, s238_18, s238_19, s238_20, s238_23, s238_26, s238_27, s238_30, s238_32, s238_33, s238_34, s238_37, s238_39, s238_40, s238_41, s238_42, s238_43, s238_44, s238_45, s238_46, s238_47, s238_48, s238_49, s238_52, s238_53, true_or, or_true, or_false, false_or, or_self, Int32.reduceLT, Int32.reduceLE, Nat.add_zero, Nat.zero_add, Nat.not_lt_zero, not_false_eq_true, not_true_eq_false, and_assoc, kl_q, kl_i, kl_r, kl_n, kl_0, kl_l, cs_0, cs_i, cs_r, cs_n, cs_l, aRf_s, aRf_n, gi_wl, gi_wr, gl_wi, gl_wl, gl_wr, gr_wi, gr_wl, gr_wr, sh_wi, sh_wl, sh_wr, gl_cp, gr_cp, sh_cp, gl_rw, gr_rw, sh_rw, gi_rl, gr_rl, sh_rl, Option.toList_some, Option.toList_none, List.nil_append, List.cons_append, List.append_nil, Option.some.injEq, Prod.mk.injEq, and_true, true_and, and_self, if_true, if_false, reduceCtorEq, Nat.reduceLeDiff, Nat.reduceLT, Nat.reduceAdd, Nat.reduceEqDiff, false_and, and_false, exists_const, exists_eq_left, exists_eq_left', exists_and_left, and_assoc, gi_wi_n, gi_wi_e, gi_rw_n, gi_rw_e, aWi_rw, ifl, ifl_, ifle, ifle_, ifq, ifq_, ifnq, ifnq_, ifnl, ifnl_, ifnle, ifnle_, nb0, nb1, Nat.reduceLT, z399 ok, z416 ok, r399_27 ok, inA, vpL, nclL, x33, m_in, hin, bI_0]
      exact inv
    · obtain ⟨j, hj, rfl⟩ := nI_of h2
      have hj2 : min 60 D ≤ j := Nat.le_of_not_lt (fun q => h1 ⟨nI_pos' hj, (nI_ltI hj (by omega)).mpr q⟩)
      simp (disch := omega) only [s118_0, s118_1, s118_4, s118_5, s118_6, s118_9, s118_12, s118_15, s118_18, s118_19, s118_20, s118_21, s118_24, s118_25, s118_28, s118_31, s118_32, s118_33, s118_36, s24_0, s24_2, s24_3, s24_6, true_or, or_true, or_false, false_or, or_self, Int32.reduceLT, Int32.reduceLE, Nat.add_zero, Nat.zero_add, Nat.not_lt_zero, not_false_eq_true, not_true_eq_false, and_assoc, kl_q, kl_i, kl_r, kl_n, kl_0, kl_l, cs_0, cs_i, cs_r, cs_n, cs_l, aRf_s, aRf_n, gi_wl, gi_wr, gl_wi, gl_wl, gl_wr, gr_wi, gr_wl, gr_wr, sh_wi, sh_wl, sh_wr, gl_cp, gr_cp, sh_cp, gl_rw, gr_rw, sh_rw, gi_rl, gr_rl, sh_rl, Option.toList_some, Option.toList_none, List.nil_append, List.cons_append, List.append_nil, Option.some.injEq, Prod.mk.injEq, and_true, true_and, and_self, if_true, if_false, reduceCtorEq, Nat.reduceLeDiff, Nat.reduceLT, Nat.reduceAdd, Nat.reduceEqDiff, false_and, and_false, exists_const, exists_eq_left, exists_eq_left', exists_and_left, and_assoc, nltL, nltR, nleL, nleR, neqL, neqR, naL, naR, nmL, nmR, nI_ltI, nI_leI, nI_eq, nI_add, nI_mul, nI_clamp, n0l, n0r, nm1, nm1', nm1l, nm1r, nm1g, nsL, nI_m1, Nat.add_sub_cancel, vpn, vpL, nclL, le32, leLL, leLN, leNL, leNN, inA, nb0, nb1, gi_wi_n, gi_wi_e, gi_rw_n, gi_rw_e, aWi_rw, ifl, ifl_, ifle, ifle_, ifq, ifq_, ifnq, ifnq_, ifnl, ifnl_, ifnle, ifnle_, z32 ok, z79 ok, r32_5 ok, w6, sp_min, hm60]
      refine ⟨-1, rfl, ?_⟩
      simp (disch := omega) only [s238_0, s238_1, s238_2, s238_3, s238_6, s238_8, s238_9, s238_10, s238_11, s238_14, s238_17, s238_18, s238_19, s238_20, s238_23, s238_26, s238_27, s238_30, s238_32, s238_33, s238_34, s238_37, s238_39, s238_40, s238_41, s238_42, s238_43, s238_44, s238_45, s238_46, s238_47, s238_48, s238_49, s238_52, s238_53, true_or, or_true, or_false, false_or, or_self, Int32.reduceLT, Int32.reduceLE, Nat.add_zero, Nat.zero_add, Nat.not_lt_zero, not_false_eq_true, not_true_eq_false, and_assoc, kl_q, kl_i, kl_r, kl_n, kl_0, kl_l, cs_0, cs_i, cs_r, cs_n, cs_l, aRf_s, aRf_n, gi_wl, gi_wr, gl_wi, gl_wl, gl_wr, gr_wi, gr_wl, gr_wr, sh_wi, sh_wl, sh_wr, gl_cp, gr_cp, sh_cp, gl_rw, gr_rw, sh_rw, gi_rl, gr_rl, sh_rl, Option.toList_some, Option.toList_none, List.nil_append, List.cons_append, List.append_nil, Option.some.injEq, Prod.mk.injEq, and_true, true_and, and_self, if_true, if_false, reduceCtorEq, Nat.reduceLeDiff, Nat.reduceLT, Nat.reduceAdd, Nat.reduceEqDiff, false_and, and_false, exists_const, exists_eq_left, exists_eq_left', exists_and_left, and_assoc, gi_wi_n, gi_wi_e, gi_rw_n, gi_rw_e, aWi_rw, ifl, ifl_, ifle, ifle_, ifq, ifq_, ifnq, ifnq_, ifnl, ifnl_, ifnle, ifnle_, nb0, nb1, Nat.reduceLT, z399 ok, z416 ok, r399_27 ok, inA, vpL, nclL, x33, m_in, hin, bI_0]
      exact inv
end O8
