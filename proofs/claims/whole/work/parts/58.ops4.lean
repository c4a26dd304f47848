-- deps: 57.ops3
section O4
variable {g h : aM} {M F L W N D c nx n T n' T' N' : Nat} {s : Nat → Int32} {lg ks : Nat → Nat → Int32} {Dk : Nat → Nat}
def SZ (a k : Nat) : Prop := (a = 32 ∧ (k = 17 ∨ k = 18)) ∨ a = 33 ∨ a = 34 ∨ (a = 358 ∧ k = 3) ∨ (359 ≤ a ∧ a ≤ 361) ∨ (a = 399 ∧ (k = 2 ∨ k = 29 ∨ k = 30 ∨ k = 44)) ∨ a = 400 ∨ (422 ≤ a ∧ a ≤ 424) ∨ ScrP a k
theorem nSZ1 {a k : Nat} (h1 : 58 ≤ a) (h2 : a ≤ 341) : ¬ SZ a k := by
  unfold SZ ScrP
  omega
theorem inv_sm (i : InvA g M F L W N D c nx n T s lg ks Dk) (z : Ag SZ g h) (il : ILaw h N) (is : ISee h n') (tp : ITape h T') (e : gi h 32 18 = gi h 399 30) : Inv h := by
  obtain ⟨i1, i2, i3, i4, ⟨i5, i6, i7⟩, ⟨i8, i9⟩, i10, i11, i12, i13, i14, i15, i16⟩ := i
  have t : ∀ a k, ¬ SZ a k → gi h a k = gi g a k := z.2
  have q1 : ∀ a k, (a = 416 ∨ a = 421 ∨ a = 428 ∨ (413 ≤ a ∧ a ≤ 415) ∨ a = 417 ∨ a = 371) → ¬ SZ a k := fun a k q => by
    unfold SZ ScrP
    omega
  have q2 : ∀ k, (k = 38 ∨ k = 49 ∨ k = 25 ∨ k = 26) → ¬ SZ 399 k := fun k q => by
    unfold SZ ScrP
    omega
  have q3 : ∀ a k, a < 32 ∨ (a = 32 ∧ k = 15) → ¬ SZ a k := fun a k q => by
    unfold SZ ScrP
    omega
  have it2 : ITold h M F L W := by
    obtain ⟨hM, hF, hL, hW, t5, t6, t7, t8, t9, t10, t11, t12, t13, t14, t15, t16⟩ := i2
    refine ⟨hM, hF, hL, hW, t5, ?_, ?_, ?_, ?_, ?_, ?_, ?_, ?_, fun k hk => ?_, fun k hk => ?_, fun i j hi hj e => ?_⟩
    · rw [t _ _ (nSZ1 (by omega) (by omega)), t6]
    · rw [t _ _ (q2 _ (by omega)), t7]
    · rw [t _ _ (nSZ1 (by omega) (by omega)), t8]
    · rw [t _ _ (q2 _ (by omega)), t9]
    · rw [t _ _ (nSZ1 (by omega) (by omega)), t10]
    · rw [t _ _ (q1 _ _ (by omega)), t11]
    · rw [t _ _ (nSZ1 (by omega) (by omega)), t12]
    · rw [t _ _ (q1 _ _ (by omega)), t13]
    · rw [t (61 + k) _ (nSZ1 (by omega) (by omega)), t 414 _ (q1 _ _ (by omega))]
      exact t14 k hk
    · rw [t (68 + k) _ (nSZ1 (by omega) (by omega)), t 415 _ (q1 _ _ (by omega))]
      exact t15 k hk
    · rw [t 415 _ (q1 _ _ (by omega)), t 415 _ (q1 _ _ (by omega))] at e
      exact t16 i j hi hj e
  have if2 : IFirst h M F := by
    obtain ⟨a1, a2, a3, a4, a5, a6⟩ := i3
    refine ⟨fun k hk => ?_, fun k hk => ?_, ?_, ?_, fun h0 => ?_, ?_⟩
    · rw [t 74 _ (nSZ1 (by omega) (by omega)), t 75 _ (nSZ1 (by omega) (by omega)), t 414 (4 * k) (q1 _ _ (by omega)), t 414 (4 * k + 1) (q1 _ _ (by omega))]
      exact a1 k hk
    · rw [t 78 _ (nSZ1 (by omega) (by omega)), t 415 _ (q1 _ _ (by omega))]
      exact a2 k hk
    · rw [t 73 _ (nSZ1 (by omega) (by omega)), t 413 _ (q1 _ _ (by omega)), a3]
    · rw [t 73 _ (nSZ1 (by omega) (by omega)), t 413 _ (q1 _ _ (by omega)), a4]
    · rw [t 413 _ (q1 _ _ (by omega))]
      exact a5 h0
    · rw [t 413 _ (q1 _ _ (by omega))]
      exact a6
  have hnx := i11.2.1
  refine ⟨M, F, L, W, N, D, c, nx, n', T', s, lg, ks, Dk, z.1, it2, if2, il, ⟨i5.eq (fun b k hb => t _ _ (nSZ1 (by omega) (by omega))), i6.eq (fun a k h1 h2 => t _ _ (nSZ1 (by omega) (by omega))), i7.eq (fun w k hw => t _ _ (nSZ1 (by omega) (by omega)))⟩, ⟨i8.eq (fun k _ => t _ _ (q1 _ _ (by omega))), i9.eq (t _ _ (q2 _ (by omega))) (fun k => t _ _ (q1 _ _ (by omega)))⟩, i10, i11, i12.eq (t _ _ (q3 _ _ (by omega))) (t _ _ (q2 _ (by omega))) (fun a k h1 h2 => t _ _ (nSZ1 (by omega) (by omega))) (fun k => t _ _ (q1 _ _ (by omega))), is, tp, fun a j h1 h2 => ?_, fun k hk => ?_, e⟩
  · rw [t _ _ (q3 _ _ (by omega))]
    exact i15 a j h1 h2
  · rw [t 371 k (q1 _ _ (by omega)), t 417 k (q1 _ _ (by omega))]
    exact i16.1 k hk
/-- laws stay where neither number of them is touched -/
theorem il_sm (il : ILaw g N) (z : Ag SZ g h) (e1 : gi h 32 17 = gi g 32 17) (e2 : gi h 399 29 = gi g 399 29) : ILaw h N := il.tz (fun a k q => by
  by_cases h1 : a = 32 ∧ k = 17
  · rw [h1.1, h1.2, e1]
  · by_cases h2 : a = 399 ∧ k = 29
    · rw [h2.1, h2.2, e2]
    · refine z.2 a k ?_
      unfold TZ at q
      unfold SZ ScrP
      omega)
theorem is_sm (is : ISee g n) (z : Ag SZ g h) (e1 : ∀ a k, (a = 358 ∧ k = 3) ∨ (359 ≤ a ∧ a ≤ 361) ∨ (a = 399 ∧ k = 44) ∨ (422 ≤ a ∧ a ≤ 424) → gi h a k = gi g a k) : ISee h n := is.eq (e1 _ _ (by omega)) (e1 _ _ (by omega)) (fun a k h1 h2 => e1 _ _ (by omega)) (fun a k h1 h2 => e1 _ _ (by omega))
theorem tp_sm (tp : ITape g T) (e1 : ∀ a k, (a = 33 ∧ k = 1) ∨ a = 34 ∨ (a = 399 ∧ k = 2) ∨ a = 400 → gi h a k = gi g a k) : ITape h T := tp.eq (e1 _ _ (by omega)) (e1 _ _ (by omega)) (fun k => e1 _ _ (by omega)) (fun k => e1 _ _ (by omega))
end O4
section O5
theorem a_storm (b : Int32) : Act 114 233 [some (.ref 32), some (.int b)] [some (.ref 399), some (.int b)] := by
  rintro g d ⟨M, F, L, W, N, D, c, nx, n, T, s, lg, ks, Dk, i⟩
  obtain ⟨i1, i2, i3, i4, ⟨i5, i6, i7⟩, ⟨i8, i9⟩, i10, i11, i12, i13, i14, i15, i16⟩ := id i
  have it := i2
  have hM : M ≤ 6 := it.1
  have hM' : M ≤ 10 := by omega
  have hF : F ≤ 5 := it.2.1
  have hF' : F ≤ 10 := by omega
  have hL : L ≤ 30 := it.2.2.1
  have hW : W ≤ 20 := it.2.2.2.1
  have hc40 := i11.1
  have hnx := i11.2.1
  obtain ⟨r1, r2, r3, r4, r5, r6, r7, r8⟩ := rd58' it
  obtain ⟨w1, w2, w3, w4, w5, w6⟩ := rdS i5
  have ok := i1
  have e18 := i16.2
  have inv : Inv g := ⟨M, F, L, W, N, D, c, nx, n, T, s, lg, ks, Dk, i⟩
  rcases inR3 (n := 9) (lit := 9) (by omega) rfl b with ⟨hi, hb⟩ | ⟨hi, j, hj, hj2, rfl⟩ | ⟨hi, x, hx, rfl⟩
  · simp (disch := omega) only [s114_0, s114_1, s114_4, s114_5, s114_7, s114_10, s114_11, s114_12, s114_15, s114_18, s114_19, s114_20, s114_21, s114_22, s114_25, s114_26, true_or, or_true, or_false, false_or, or_self, Int32.reduceLT, Int32.reduceLE, Nat.add_zero, Nat.zero_add, Nat.not_lt_zero, not_false_eq_true, not_true_eq_false, and_assoc, kl_q, kl_i, kl_r, kl_n, kl_0, kl_l, cs_0, cs_i, cs_r, cs_n, cs_l, aRf_s, aRf_n, gi_wl, gi_wr, gl_wi, gl_wl, gl_wr, gr_wi, gr_wl, gr_wr, sh_wi, sh_wl, sh_wr, gl_cp, gr_cp, sh_cp, gl_rw, gr_rw, sh_rw, gi_rl, gr_rl, sh_rl, Option.toList_some, Option.toList_none, List.nil_append, List.cons_append, List.append_nil, Option.some.injEq, Prod.mk.injEq, and_true, true_and, and_self, if_true, if_false, reduceCtorEq, Nat.reduceLeDiff, Nat.reduceLT, Nat.reduceAdd, Nat.reduceEqDiff, false_and, and_false, exists_const, exists_eq_left, exists_eq_left', exists_and_left, and_assoc, nltL, nltR, nleL, nleR, neqL, neqR, naL, naR, nmL, nmR, nI_ltI, nI_leI, nI_eq, nI_add, nI_mul, nI_clamp, n0l, n0r, nm1, nm1', nm1l, nm1r, nm1g, nsL, nI_m1, Nat.add_sub_cancel, vpn, vpL, nclL, le32, leLL, leLN, leNL, leNN, inA, nb0, nb1, gi_wi_n, gi_wi_e, gi_rw_n, gi_rw_e, aWi_rw, ifl, ifl_, ifle, ifle_, ifq, ifq_, ifnq, ifnq_, ifnl, ifnl_, ifnle, ifnle_, z32 ok, hb]
    refine ⟨0, rfl, ?_⟩
    simp (disch := omega) only [s233_0, s233_1, s233_2, s233_4, s233_7, s233_10, s233_11, s233_12, s233_15, s233_18, s233_19, s233_20, s233_21, s233_22, s233_25, s233_26, true_or, or_true, or_false, false_or, or_self, Int32.reduceLT, Int32.reduceLE, Nat.add_zero, Nat.zero_add, Nat.not_lt_zero, not_false_eq_true, not_true_eq_false, and_assoc, kl_q, kl_i, kl_r, kl_n, kl_0, kl_l, cs_0, cs_i, cs_r, cs_n, cs_l, aRf_s, aRf_n, gi_wl, gi_wr, gl_wi, gl_wl, gl_wr, gr_wi, gr_wl, gr_wr, sh_wi, sh_wl, sh_wr, gl_cp, gr_cp, sh_cp, gl_rw, gr_rw, sh_rw, gi_rl, gr_rl, sh_rl, Option.toList_some, Option.toList_none, List.nil_append, List.cons_append, List.append_nil, Option.some.injEq, Prod.mk.injEq, and_true, true_and, and_self, if_true, if_false, reduceCtorEq, Nat.reduceLeDiff, Nat.reduceLT, Nat.reduceAdd, Nat.reduceEqDiff, false_and, and_false, exists_const, exists_eq_left, exists_eq_left', exists_and_left, and_assoc, nltL, nltR, nleL, nleR, neqL, neqR, naL, naR, nmL, nmR, nI_ltI, nI_leI, nI_eq, nI_add, nI_mul, nI_clamp, n0l, n0r, nm1, nm1', nm1l, nm1r, nm1g, nsL, nI_m1, Nat.add_sub_cancel, vpn, vpL, nclL, le32, leLL, leLN, leNL, leNN, inA, nb0, nb1, gi_wi_n, gi_wi_e, gi_rw_n, gi_rw_e, aWi_rw, ifl, ifl_, ifle, ifle_, ifq, ifq_, ifnq, ifnq_, ifnl, ifnl_, ifnle, ifnle_, z399 ok, m_in, hi, bI_0]
    exact inv
  · simp (disch := omega) only [s114_0, s114_1, s114_4, s114_5, s114_7, s114_10, s114_11, s114_12, s114_15, s114_18, s114_19, s114_20, s114_21, s114_22, s114_25, s114_26, true_or, or_true, or_false, false_or, or_self, Int32.reduceLT, Int32.reduceLE, Nat.add_zero, Nat.zero_add, Nat.not_lt_zero, not_false_eq_true, not_true_eq_false, and_assoc, kl_q, kl_i, kl_r, kl_n, kl_0, kl_l, cs_0, cs_i, cs_r, cs_n, cs_l, aRf_s, aRf_n, gi_wl, gi_wr, gl_wi, gl_wl, gl_wr, gr_wi, gr_wl, gr_wr, sh_wi, sh_wl, sh_wr, gl_cp, gr_cp, sh_cp, gl_rw, gr_rw, sh_rw, gi_rl, gr_rl, sh_rl, Option.toList_some, Option.toList_none, List.nil_append, List.cons_append, List.append_nil, Option.some.injEq, Prod.mk.injEq, and_true, true_and, and_self, if_true, if_false, reduceCtorEq, Nat.reduceLeDiff, Nat.reduceLT, Nat.reduceAdd, Nat.reduceEqDiff, false_and, and_false, exists_const, exists_eq_left, exists_eq_left', exists_and_left, and_assoc, nltL, nltR, nleL, nleR, neqL, neqR, naL, naR, nmL, nmR, nI_ltI, nI_leI, nI_eq, nI_add, nI_mul, nI_clamp, n0l, n0r, nm1, nm1', nm1l, nm1r, nm1g, nsL, nI_m1, Nat.add_sub_cancel, vpn, vpL, nclL, le32, leLL, leLN, leNL, leNN, inA, nb0, nb1, gi_wi_n, gi_wi_e, gi_rw_n, gi_rw_e, aWi_rw, ifl, ifl_, ifle, ifle_, ifq, ifq_, ifnq, ifnq_, ifnl, ifnl_, ifnle, ifnle_, z32 ok]
    refine ⟨0, rfl, ?_⟩
    simp (disch := omega) only [s233_0, s233_1, s233_2, s233_4, s233_7, s233_10, s233_11, s233_12, s233_15, s233_18, s233_19, s233_20, s233_21, s233_22, s233_25, s233_26, true_or, or_true, or_false, false_or, or_self, Int32.reduceLT, Int32.reduceLE, Nat.add_zero, Nat.zero_add, Nat.not_lt_zero, not_false_eq_true, not_true_eq_false, and_assoc, kl_q, kl_i, kl_r, kl_n, kl_0, kl_l, cs_0, cs_i, cs_r, cs_n, cs_l, aRf_s, aRf_n, gi_wl, gi_wr, gl_wi, gl_wl, gl_wr, gr_wi, gr_wl, gr_wr, sh_wi, sh_wl, sh_wr, gl_cp, gr_cp, sh_cp, gl_rw, gr_rw, sh_rw, gi_rl, gr_rl, sh_rl, Option.toList_some, Option.toList_none, List.nil_append, List.cons_append, List.append_nil, Option.some.injEq, Prod.mk.injEq, and_true, true_and, and_self, if_true, if_false, reduceCtorEq, Nat.reduceLeDiff, Nat.reduceLT, Nat.reduceAdd, Nat.reduceEqDiff, false_and, and_false, exists_const, exists_eq_left, exists_eq_left', exists_and_left, and_assoc, nltL, nltR, nleL, nleR, neqL, neqR, naL, naR, nmL, nmR, nI_ltI, nI_leI, nI_eq, nI_add, nI_mul, nI_clamp, n0l, n0r, nm1, nm1', nm1l, nm1r, nm1g, nsL, nI_m1, Nat.add_sub_cancel, vpn, vpL, nclL, le32, leLL, leLN, leNL, leNN, inA, nb0, nb1, gi_wi_n, gi_wi_e, gi_rw_n, gi_rw_e, aWi_rw, ifl, ifl_, ifle, ifle_, ifq, ifq_, ifnq, ifnq_, ifnl, ifnl_, ifnle, ifnle_, z399 ok, m_in, hi, bI_0]
    exact inv
  by_cases he : nI x = gi g 399 30
  · simp (disch := omega) only [s114_0, s114_1, s114_4, s114_5, s114_7, s114_10, s114_11, s114_12, s114_15, s114_18, s114_19, s114_20, s114_21, s114_22, s114_25, s114_26, true_or, or_true, or_false, false_or, or_self, Int32.reduceLT, Int32.reduceLE, Nat.add_zero, Nat.zero_add, Nat.not_lt_zero, not_false_eq_true, not_true_eq_false, and_assoc, kl_q, kl_i, kl_r, kl_n, kl_0, kl_l, cs_0, cs_i, cs_r, cs_n, cs_l, aRf_s, aRf_n, gi_wl, gi_wr, gl_wi, gl_wl, gl_wr, gr_wi, gr_wl, gr_wr, sh_wi, sh_wl, sh_wr, gl_cp, gr_cp, sh_cp, gl_rw, gr_rw, sh_rw, gi_rl, gr_rl, sh_rl, Option.toList_some, Option.toList_none, List.nil_append, List.cons_append, List.append_nil, Option.some.injEq, Prod.mk.injEq, and_true, true_and, and_self, if_true, if_false, reduceCtorEq, Nat.reduceLeDiff, Nat.reduceLT, Nat.reduceAdd, Nat.reduceEqDiff, false_and, and_false, exists_const, exists_eq_left, exists_eq_left', exists_and_left, and_assoc, nltL, nltR, nleL, nleR, neqL, neqR, naL, naR, nmL, nmR, nI_ltI, nI_leI, nI_eq, nI_add, nI_mul, nI_clamp, n0l, n0r, nm1, nm1', nm1l, nm1r, nm1g, nsL, nI_m1, Nat.add_sub_cancel, vpn, vpL, nclL, le32, leLL, leLN, leNL, leNN, inA, nb0, nb1, gi_wi_n, gi_wi_e, gi_rw_n, gi_rw_e, aWi_rw, ifl, ifl_, ifle, ifle_, ifq, ifq_, ifnq, ifnq_, ifnl, ifnl_, ifnle, ifnle_, z32 ok, e18, he.symm]
    refine ⟨0, rfl, ?_⟩
    simp (disch := omega) only [s233_0, s233_1, s233_2, s233_4, s233_7, s233_10, s233_11, s233_12, s233_15, s233_18, s233_19, s233_20, s233_21, s233_22, s233_25, s233_26, true_or, or_true, or_false, false_or, or_self, Int32.reduceLT, Int32.reduceLE, Nat.add_zero, Nat.zero_add, Nat.not_lt_zero, not_false_eq_true, not_true_eq_false, and_assoc, kl_q, kl_i, kl_r, kl_n, kl_0, kl_l, cs_0, cs_i, cs_r, cs_n, cs_l, aRf_s, aRf_n, gi_wl, gi_wr, gl_wi, gl_wl, gl_wr, gr_wi, gr_wl, gr_wr, sh_wi, sh_wl, sh_wr, gl_cp, gr_cp, sh_cp, gl_rw, gr_rw, sh_rw, gi_rl, gr_rl, sh_rl, Option.toList_some, Option.toList_none, List.nil_append, List.cons_append, List.append_nil, Option.some.injEq, Prod.mk.injEq, and_true, true_and, and_self, if_true, if_false, reduceCtorEq, Nat.reduceLeDiff, Nat.reduceLT, Nat.reduceAdd, Nat.reduceEqDiff, false_and, and_false, exists_const, exists_eq_left, exists_eq_left', exists_and_left, and_assoc, nltL, nltR, nleL, nleR, neqL, neqR, naL, naR, nmL, nmR, nI_ltI, nI_leI, nI_eq, nI_add, nI_mul, nI_clamp, n0l, n0r, nm1, nm1', nm1l, nm1r, nm1g, nsL, nI_m1, Nat.add_sub_cancel, vpn, vpL, nclL, le32, leLL, leLN, leNL, leNN, inA, nb0, nb1, gi_wi_n, gi_wi_e, gi_rw_n, gi_rw_e, aWi_rw, ifl, ifl_, ifle, ifle_, ifq, ifq_, ifnq, ifnq_, ifnl, ifnl_, ifnle, ifnle_, z399 ok, m_in, hi, bI_0, Bool.true_eq_false, he.symm]
    exact inv
  · simp (disch := omega) only [s114_0, s114_1, s114_4, s114_5, s114_7, s114_10, s114_11, s114_12, s114_15, s114_18, s114_19, s114_20, s114_21, s114_22, s114_25, s114_26, true_or, or_true, or_false, false_or, or_self, Int32.reduceLT, Int32.reduceLE, Nat.add_zero, Nat.zero_add, Nat.not_lt_zero, not_false_eq_true, not_true_eq_false, and_assoc, kl_q, kl_i, kl_r, kl_n, kl_0, kl_l, cs_0, cs_i, cs_r, cs_n, cs_l, aRf_s, aRf_n, gi_wl, gi_wr, gl_wi, gl_wl, gl_wr, gr_wi, gr_wl, gr_wr, sh_wi, sh_wl, sh_wr, gl_cp, gr_cp, sh_cp, gl_rw, gr_rw, sh_rw, gi_rl, gr_rl, sh_rl, Option.toList_some, Option.toList_none, List.nil_append, List.cons_append, List.append_nil, Option.some.injEq, Prod.mk.injEq, and_true, true_and, and_self, if_true, if_false, reduceCtorEq, Nat.reduceLeDiff, Nat.reduceLT, Nat.reduceAdd, Nat.reduceEqDiff, false_and, and_false, exists_const, exists_eq_left, exists_eq_left', exists_and_left, and_assoc, nltL, nltR, nleL, nleR, neqL, neqR, naL, naR, nmL, nmR, nI_ltI, nI_leI, nI_eq, nI_add, nI_mul, nI_clamp, n0l, n0r, nm1, nm1', nm1l, nm1r, nm1g, nsL, nI_m1, Nat.add_sub_cancel, vpn, vpL, nclL, le32, leLL, leLN, leNL, leNN, inA, nb0, nb1, gi_wi_n, gi_wi_e, gi_rw_n, gi_rw_e, aWi_rw, ifl, ifl_, ifle, ifle_, ifq, ifq_, ifnq, ifnq_, ifnl, ifnl_, ifnle, ifnle_, z32 ok, e18, he]
    refine ⟨1, rfl, ?_⟩
    have ok : OK (aWi g 32 18 (nI x)) := ok
    have he' : ¬ nI x = gi (aWi g 32 18 (nI x)) 399 30 := he
    simp (disch := omega) only [s233_0, s233_1, s233_2, s233_4, s233_7, s233_10, s233_11, s233_12, s233_15, s233_18, s233_19, s233_20, s233_21, s233_22, s233_25, s233_26, true_or, or_true, or_false, false_or, or_self, Int32.reduceLT, Int32.reduceLE, Nat.add_zero, Nat.zero_add, Nat.not_lt_zero, not_false_eq_true, not_true_eq_false, and_assoc, kl_q, kl_i, kl_r, kl_n, kl_0, kl_l, cs_0, cs_i, cs_r, cs_n, cs_l, aRf_s, aRf_n, gi_wl, gi_wr, gl_wi, gl_wl, gl_wr, gr_wi, gr_wl, gr_wr, sh_wi, sh_wl, sh_wr, gl_cp, gr_cp, sh_cp, gl_rw, gr_rw, sh_rw, gi_rl, gr_rl, sh_rl, Option.toList_some, Option.toList_none, List.nil_append, List.cons_append, List.append_nil, Option.some.injEq, Prod.mk.injEq, and_true, true_and, and_self, if_true, if_false, reduceCtorEq, Nat.reduceLeDiff, Nat.reduceLT, Nat.reduceAdd, Nat.reduceEqDiff, false_and, and_false, exists_const, exists_eq_left, exists_eq_left', exists_and_left, and_assoc, nltL, nltR, nleL, nleR, neqL, neqR, naL, naR, nmL, nmR, nI_ltI, nI_leI, nI_eq, nI_add, nI_mul, nI_clamp, n0l, n0r, nm1, nm1', nm1l, nm1r, nm1g, nsL, nI_m1, Nat.add_sub_cancel, vpn, vpL, nclL, le32, leLL, leLN, leNL, leNN, inA, nb0, nb1, gi_wi_n, gi_wi_e, gi_rw_n, gi_rw_e, aWi_rw, ifl, ifl_, ifle, ifle_, ifq, ifq_, ifnq, ifnq_, ifnl, ifnl_, ifnle, ifnle_, z399 ok, m_in, hi, bI_0, Bool.true_eq_false, he]
    have z : Ag SZ g (aWi (aWi g 32 18 (nI x)) 399 30 (nI x)) := ((Ag.refl i1).wi (by unfold SZ; omega)).wi (by unfold SZ; omega)
    refine inv_sm i z (il_sm i4 z ?_ ?_) (is_sm i13 z (fun a k q => ?_)) (tp_sm i14 (fun a k q => ?_)) ?_
    · rw [gi_wi_n (by omega), gi_wi_n (by omega)]
    · rw [gi_wi_n (by omega), gi_wi_n (by omega)]
    · rw [gi_wi_n (by omega), gi_wi_n (by omega)]
    · rw [gi_wi_n (by omega), gi_wi_n (by omega)]
    · rw [gi_wi_n (by omega), gi_wi_e, gi_wi_e]
theorem a_law (b : Int32) : Act 97 220 [some (.ref 32), some (.int b)] [some (.ref 399), some (.int b)] := by
  rintro g d ⟨M, F, L, W, N, D, c, nx, n, T, s, lg, ks, Dk, i⟩
  obtain ⟨i1, i2, i3, i4, ⟨i5, i6, i7⟩, ⟨i8, i9⟩, i10, i11, i12, i13, i14, i15, i16⟩ := id i
  have it := i2
  have hM : M ≤ 6 := it.1
  have hM' : M ≤ 10 := by omega
  have hF : F ≤ 5 := it.2.1
  have hF' : F ≤ 10 := by omega
  have hL : L ≤ 30 := it.2.2.1
  have hW : W ≤ 20 := it.2.2.2.1
  have hc40 := i11.1
  have hnx := i11.2.1
  obtain ⟨r1, r2, r3, r4, r5, r6, r7, r8⟩ := rd58' it
  obtain ⟨w1, w2, w3, w4, w5, w6⟩ := rdS i5
  have ok := i1
  obtain ⟨l1, l2, l3, l4, l5, l6⟩ := id i4
  have inv : Inv g := ⟨M, F, L, W, N, D, c, nx, n, T, s, lg, ks, Dk, i⟩
  have em : (-1 : Int32).toInt = -1 := rfl
  have e1 : (1 : Int32).toInt = 1 := rfl
  have e0 : (0 : Int32).toInt = 0 := rfl
  have eN := nI_toInt (show N < 2 ^ 31 by omega)
  have hs := sbi (nI N) 1
  rw [e1, eN] at hs
  by_cases h1 : b < -1
  · have hi : inR b (-1) (nI N - 1) = false := by
      unfold inR
      apply decide_eq_false
      rintro ⟨q1, q2⟩
      exact Int32.not_lt.mpr q1 h1
    simp (disch := omega) only [s97_0, s97_1, s97_2, s97_5, s97_6, s97_7, s97_10, s97_13, s97_14, s97_15, s97_16, s97_17, s97_20, s97_21, true_or, or_true, or_false, false_or, or_self, Int32.reduceLT, Int32.reduceLE, Nat.add_zero, Nat.zero_add, Nat.not_lt_zero, not_false_eq_true, not_true_eq_false, and_assoc, kl_q, kl_i, kl_r, kl_n, kl_0, kl_l, cs_0, cs_i, cs_r, cs_n, cs_l, aRf_s, aRf_n, gi_wl, gi_wr, gl_wi, gl_wl, gl_wr, gr_wi, gr_wl, gr_wr, sh_wi, sh_wl, sh_wr, gl_cp, gr_cp, sh_cp, gl_rw, gr_rw, sh_rw, gi_rl, gr_rl, sh_rl, Option.toList_some, Option.toList_none, List.nil_append, List.cons_append, List.append_nil, Option.some.injEq, Prod.mk.injEq, and_true, true_and, and_self, if_true, if_false, reduceCtorEq, Nat.reduceLeDiff, Nat.reduceLT, Nat.reduceAdd, Nat.reduceEqDiff, false_and, and_false, exists_const, exists_eq_left, exists_eq_left', exists_and_left, and_assoc, nltL, nltR, nleL, nleR, neqL, neqR, naL, naR, nmL, nmR, nI_ltI, nI_leI, nI_eq, nI_add, nI_mul, nI_clamp, n0l, n0r, nm1, nm1', nm1l, nm1r, nm1g, nsL, nI_m1, Nat.add_sub_cancel, vpn, vpL, nclL, le32, leLL, leLN, leNL, leNN, inA, nb0, nb1, gi_wi_n, gi_wi_e, gi_rw_n, gi_rw_e, aWi_rw, ifl, ifl_, ifle, ifle_, ifq, ifq_, ifnq, ifnq_, ifnl, ifnl_, ifnle, ifnle_, z32 ok, h1]
    refine ⟨0, rfl, ?_⟩
    simp (disch := omega) only [s220_0, s220_1, s220_2, s220_3, s220_6, s220_7, s220_8, s220_11, s220_14, s220_15, s220_16, s220_17, s220_18, s220_21, s220_22, true_or, or_true, or_false, false_or, or_self, Int32.reduceLT, Int32.reduceLE, Nat.add_zero, Nat.zero_add, Nat.not_lt_zero, not_false_eq_true, not_true_eq_false, and_assoc, kl_q, kl_i, kl_r, kl_n, kl_0, kl_l, cs_0, cs_i, cs_r, cs_n, cs_l, aRf_s, aRf_n, gi_wl, gi_wr, gl_wi, gl_wl, gl_wr, gr_wi, gr_wl, gr_wr, sh_wi, sh_wl, sh_wr, gl_cp, gr_cp, sh_cp, gl_rw, gr_rw, sh_rw, gi_rl, gr_rl, sh_rl, Option.toList_some, Option.toList_none, List.nil_append, List.cons_append, List.append_nil, Option.some.injEq, Prod.mk.injEq, and_true, true_and, and_self, if_true, if_false, reduceCtorEq, Nat.reduceLeDiff, Nat.reduceLT, Nat.reduceAdd, Nat.reduceEqDiff, false_and, and_false, exists_const, exists_eq_left, exists_eq_left', exists_and_left, and_assoc, gi_wi_n, gi_wi_e, gi_rw_n, gi_rw_e, aWi_rw, ifl, ifl_, ifle, ifle_, ifq, ifq_, ifnq, ifnq_, ifnl, ifnl_, ifnle, ifnle_, z399 ok, l3, m_in, hi, bI_0, nb0, nb1]
    exact inv
  by_cases h2 : b < nI N
  · have hi : inR b (-1) (nI N - 1) = true := by
      unfold inR
      apply decide_eq_true
      refine ⟨Int32.not_lt.mp h1, ?_⟩
      rw [lti] at h2
      rw [lei]
      have := rgi b
      omega
    simp (disch := omega) only [s97_0, s97_1, s97_2, s97_5, s97_6, s97_7, s97_10, s97_13, s97_14, s97_15, s97_16, s97_17, s97_20, s97_21, true_or, or_true, or_false, false_or, or_self, Int32.reduceLT, Int32.reduceLE, Nat.add_zero, Nat.zero_add, Nat.not_lt_zero, not_false_eq_true, not_true_eq_false, and_assoc, kl_q, kl_i, kl_r, kl_n, kl_0, kl_l, cs_0, cs_i, cs_r, cs_n, cs_l, aRf_s, aRf_n, gi_wl, gi_wr, gl_wi, gl_wl, gl_wr, gr_wi, gr_wl, gr_wr, sh_wi, sh_wl, sh_wr, gl_cp, gr_cp, sh_cp, gl_rw, gr_rw, sh_rw, gi_rl, gr_rl, sh_rl, Option.toList_some, Option.toList_none, List.nil_append, List.cons_append, List.append_nil, Option.some.injEq, Prod.mk.injEq, and_true, true_and, and_self, if_true, if_false, reduceCtorEq, Nat.reduceLeDiff, Nat.reduceLT, Nat.reduceAdd, Nat.reduceEqDiff, false_and, and_false, exists_const, exists_eq_left, exists_eq_left', exists_and_left, and_assoc, nltL, nltR, nleL, nleR, neqL, neqR, naL, naR, nmL, nmR, nI_ltI, nI_leI, nI_eq, nI_add, nI_mul, nI_clamp, n0l, n0r, nm1, nm1', nm1l, nm1r, nm1g, nsL, nI_m1, Nat.add_sub_cancel, vpn, vpL, nclL, le32, leLL, leLN, leNL, leNN, inA, nb0, nb1, gi_wi_n, gi_wi_e, gi_rw_n, gi_rw_e, aWi_rw, ifl, ifl_, ifle, ifle_, ifq, ifq_, ifnq, ifnq_, ifnl, ifnl_, ifnle, ifnle_, z32 ok, h1, l2, h2]
    refine ⟨1, rfl, ?_⟩
    have ok : OK (aWi g 32 17 b) := ok
    have l3' : gi (aWi g 32 17 b) 399 13 = nI N := l3
    simp (disch := omega) only [s220_0, s220_1, s220_2, s220_3, s220_6, s220_7, s220_8, s220_11, s220_14, s220_15, s220_16, s220_17, s220_18, s220_21, s220_22, true_or, or_true, or_false, false_or, or_self, Int32.reduceLT, Int32.reduceLE, Nat.add_zero, Nat.zero_add, Nat.not_lt_zero, not_false_eq_true, not_true_eq_false, and_assoc, kl_q, kl_i, kl_r, kl_n, kl_0, kl_l, cs_0, cs_i, cs_r, cs_n, cs_l, aRf_s, aRf_n, gi_wl, gi_wr, gl_wi, gl_wl, gl_wr, gr_wi, gr_wl, gr_wr, sh_wi, sh_wl, sh_wr, gl_cp, gr_cp, sh_cp, gl_rw, gr_rw, sh_rw, gi_rl, gr_rl, sh_rl, Option.toList_some, Option.toList_none, List.nil_append, List.cons_append, List.append_nil, Option.some.injEq, Prod.mk.injEq, and_true, true_and, and_self, if_true, if_false, reduceCtorEq, Nat.reduceLeDiff, Nat.reduceLT, Nat.reduceAdd, Nat.reduceEqDiff, false_and, and_false, exists_const, exists_eq_left, exists_eq_left', exists_and_left, and_assoc, gi_wi_n, gi_wi_e, gi_rw_n, gi_rw_e, aWi_rw, ifl, ifl_, ifle, ifle_, ifq, ifq_, ifnq, ifnq_, ifnl, ifnl_, ifnle, ifnle_, z399 ok, l3', m_in, hi, bI_0, nb0, nb1, Bool.true_eq_false]
    have z : Ag SZ g (aWi (aWi g 32 17 b) 399 29 b) := ((Ag.refl i1).wi (by unfold SZ; omega)).wi (by unfold SZ; omega)
    have t : ∀ a k, ¬ (a = 32 ∧ k = 17) → ¬ (a = 399 ∧ k = 29) → gi (aWi (aWi g 32 17 b) 399 29 b) a k = gi g a k := fun a k q1 q2 => by
      rw [gi_wi_n q2, gi_wi_n q1]
    refine inv_sm i z ⟨l1, by rw [t _ _ (by omega) (by omega), l2], by rw [t _ _ (by omega) (by omega), l3], fun i hi => ?_, ?_, ?_⟩ (is_sm i13 z (fun a k q => t _ _ (by omega) (by omega))) (tp_sm i14 (fun a k q => t _ _ (by omega) (by omega))) (by rw [t _ _ (by omega) (by omega), t _ _ (by omega) (by omega)]; exact i16.2)
    · obtain ⟨s', c', p1, p2, p3, p4, p5, p6, p7⟩ := l4 i hi
      have es : ∀ p, segC (aWi (aWi g 32 17 b) 399 29 b) i p = segC g i p := fun p => funext fun q => t _ _ (by omega) (by omega)
      refine ⟨s', c', p1, p2, by rw [t _ _ (by omega) (by omega), p3], by rw [t _ _ (by omega) (by omega), p4], by rw [t _ _ (by omega) (by omega), p5], fun p hp => ?_, fun q hq => ?_⟩
      · rw [t (376 + 6 * i) _ (by omega) (by omega), t 401 _ (by omega) (by omega), t 402 _ (by omega) (by omega)]
        exact p6 p hp
      · obtain ⟨a, b', e, q1, q2, q3, q4, q5, q6, q7, q8, q9, q10, q11⟩ := p7 q hq
        refine ⟨a, b', e, q1, q2, q3, by rw [t _ _ (by omega) (by omega), q4], by rw [t _ _ (by omega) (by omega), q5], by rw [t _ _ (by omega) (by omega), q6], by rw [t _ _ (by omega) (by omega), q7], by rw [t _ _ (by omega) (by omega), q8], ?_, ?_, ?_⟩
        · rw [t _ _ (by omega) (by omega)]
          exact q9
        · rw [es]
          exact q10
        · rw [es]
          exact q11
    · rw [gi_wi_n (by omega), gi_wi_e, gi_wi_e]
    · rw [gi_wi_e]
      by_cases hb : b < 0
      · left
        rw [eqi, em]
        rw [lti, em] at h1
        rw [lti, e0] at hb
        omega
      · right
        obtain ⟨j, hj, rfl⟩ := nI_of hb
        exact ⟨j, (nI_ltI hj (by omega)).mp h2, rfl⟩
  · have hi : inR b (-1) (nI N - 1) = false := by
      unfold inR
      apply decide_eq_false
      rintro ⟨q1, q2⟩
      rw [lti] at h2
      rw [lei] at q1 q2
      omega
    simp (disch := omega) only [s97_0, s97_1, s97_2, s97_5, s97_6, s97_7, s97_10, s97_13, s97_14, s97_15, s97_16, s97_17, s97_20, s97_21, true_or, or_true, or_false, false_or, or_self, Int32.reduceLT, Int32.reduceLE, Nat.add_zero, Nat.zero_add, Nat.not_lt_zero, not_false_eq_true, not_true_eq_false, and_assoc, kl_q, kl_i, kl_r, kl_n, kl_0, kl_l, cs_0, cs_i, cs_r, cs_n, cs_l, aRf_s, aRf_n, gi_wl, gi_wr, gl_wi, gl_wl, gl_wr, gr_wi, gr_wl, gr_wr, sh_wi, sh_wl, sh_wr, gl_cp, gr_cp, sh_cp, gl_rw, gr_rw, sh_rw, gi_rl, gr_rl, sh_rl, Option.toList_some, Option.toList_none, List.nil_append, List.cons_append, List.append_nil, Option.some.injEq, Prod.mk.injEq, and_true, true_and, and_self, if_true, if_false, reduceCtorEq, Nat.reduceLeDiff, Nat.reduceLT, Nat.reduceAdd, Nat.reduceEqDiff, false_and, and_false, exists_const, exists_eq_left, exists_eq_left', exists_and_left, and_assoc, nltL, nltR, nleL, nleR, neqL, neqR, naL, naR, nmL, nmR, nI_ltI, nI_leI, nI_eq, nI_add, nI_mul, nI_clamp, n0l, n0r, nm1, nm1', nm1l, nm1r, nm1g, nsL, nI_m1, Nat.add_sub_cancel, vpn, vpL, nclL, le32, leLL, leLN, leNL, leNN, inA, nb0, nb1, gi_wi_n, gi_wi_e, gi_rw_n, gi_rw_e, aWi_rw, ifl, ifl_, ifle, ifle_, ifq, ifq_, ifnq, ifnq_, ifnl, ifnl_, ifnle, ifnle_, z32 ok, h1, l2, h2]
    refine ⟨0, rfl, ?_⟩
    simp (disch := omega) only [s220_0, s220_1, s220_2, s220_3, s220_6, s220_7, s220_8, s220_11, s220_14, s220_15, s220_16, s220_17, s220_18, s220_21, s220_22, true_or, or_true, or_false, false_or, or_self, Int32.reduceLT, Int32.reduceLE, Nat.add_zero, Nat.zero_add, Nat.not_lt_zero, not_false_eq_true, not_true_eq_false, and_assoc, kl_q, kl_i, kl_r, kl_n, kl_0, kl_l, cs_0, cs_i, cs_r, cs_n, cs_l, aRf_s, aRf_n, gi_wl, gi_wr, gl_wi, gl_wl, gl_wr, gr_wi, gr_wl, gr_wr, sh_wi, sh_wl, sh_wr, gl_cp, gr_cp, sh_cp, gl_rw, gr_rw, sh_rw, gi_rl, gr_rl, sh_rl, Option.toList_some, Option.toList_none, List.nil_append, List.cons_append, List.append_nil, Option.some.injEq, Prod.mk.injEq, and_true, true_and, and_self, if_true, if_false, reduceCtorEq, Nat.reduceLeDiff, Nat.reduceLT, Nat.reduceAdd, Nat.reduceEqDiff, false_and, and_false, exists_const, exists_eq_left, exists_eq_left', exists_and_left, and_assoc, gi_wi_n, gi_wi_e, gi_rw_n, gi_rw_e, aWi_rw, ifl, ifl_, ifle, ifle_, ifq, ifq_, ifnq, ifnq_, ifnl, ifnl_, ifnle, ifnle_, z399 ok, l3, m_in, hi, bI_0, nb0, nb1]
    exact inv
end O5
