-- deps: 53.inv
/-! ===== acts are kept ===== -/
/-- a block of a state of the class -/
def Bk (S : Nat) : Prop := 32 ≤ S ∧ ∀ h, OK h → sh h S = some (7, 9) ∧ gr h S 0 = some (S + 1) ∧ gr h S 1 = some (S + 2) ∧ gr h S 2 = some (S + 3) ∧ gr h S 3 = some (S + 4) ∧ gr h S 4 = some (S + 5) ∧
  sh h (S + 1) = some (100, 6) ∧ sh h (S + 2) = some (100, 6) ∧ sh h (S + 3) = some (100, 6) ∧ sh h (S + 4) = some (100, 6) ∧ sh h (S + 5) = some (100, 5)
theorem bk73 : Bk 73 := ⟨by decide, fun h ok => ⟨z73 ok, r73_0 ok, r73_1 ok, r73_2 ok, r73_3 ok, r73_4 ok, z74 ok, z75 ok, z76 ok, z77 ok, z78 ok⟩⟩
theorem bk79 : Bk 79 := ⟨by decide, fun h ok => ⟨z79 ok, r79_0 ok, r79_1 ok, r79_2 ok, r79_3 ok, r79_4 ok, z80 ok, z81 ok, z82 ok, z83 ok, z84 ok⟩⟩
theorem bk331 : Bk 331 := ⟨by decide, fun h ok => ⟨z331 ok, r331_0 ok, r331_1 ok, r331_2 ok, r331_3 ok, r331_4 ok, z332 ok, z333 ok, z334 ok, z335 ok, z336 ok⟩⟩
theorem bk91 {j : Nat} (hj : j < 40) : Bk (91 + 6 * j) := by
  have a1 : 91 + 6 * j + 1 = 92 + 6 * j := by omega
  have a2 : 91 + 6 * j + 2 = 93 + 6 * j := by omega
  have a3 : 91 + 6 * j + 3 = 94 + 6 * j := by omega
  have a4 : 91 + 6 * j + 4 = 95 + 6 * j := by omega
  have a5 : 91 + 6 * j + 5 = 96 + 6 * j := by omega
  refine ⟨by omega, fun h ok => ?_⟩
  rw [a1, a2, a3, a4, a5]
  exact ⟨q91 ok hj, g91_0 ok hj, g91_1 ok hj, g91_2 ok hj, g91_3 ok hj, g91_4 ok hj, q92 ok hj, q93 ok hj, q94 ok hj, q95 ok hj, q96 ok hj⟩
def BZ (S a _k : Nat) : Prop := S ≤ a ∧ a ≤ S + 5
section K1
variable {d : Nat} {g h : aM} {Q : Option Value → aM → Prop} {M F L W N D c nx n T : Nat} {s : Nat → Int32} {lg ks : Nat → Nat → Int32} {Dk : Nat → Nat}
theorem c_copyS {S S' : Nat} (ok : OK h) (b : Bk S) (b' : Bk S') (dj : S + 5 < S' ∨ S' + 5 < S) (hq : ∀ h', Ag (BZ S) h h' → (∀ M F s, M ≤ 6 → F ≤ 5 → StC h M F S' s → StC h' M F S s) → Q none h') : AW (d + 2) 69 0 [some (.ref S), some (.ref S')] [] h Q := by
  have h32 := b.1
  obtain ⟨e0, e1, e2, e3, e4, e5, e6, e7, e8, e9, e10⟩ := b.2 h ok
  obtain ⟨f0, f1, f2, f3, f4, f5, f6, f7, f8, f9, f10⟩ := b'.2 h ok
  simp (disch := omega) only [s69_0, s69_0n, s69_1, s69_4, s69_4n, s69_5, s69_8, s69_11, s69_11n, s69_12, s69_15, s69_15n, s69_16, s69_19, s69_22, s69_22n, s69_23, s69_26, s69_26n, s69_27, s69_30, s69_33, s69_33n, s69_34, s69_37, s69_37n, s69_38, s69_41, s69_44, s69_44n, s69_45, s69_48, s69_48n, s69_49, s69_52, s69_55, s69_55n, s69_56, s69_56n, s69_57, s69_60, s69_63, s69_63n, s69_64, s69_64n, s69_65, s69_68, s69_71, s69_71n, s69_72, s69_72n, s69_73, s69_76, s69_79, s69_79n, s69_80, s69_80n, s69_81, s69_84, s69_87, true_or, or_true, or_false, false_or, or_self, Int32.reduceLT, Int32.reduceLE, Nat.add_zero, Nat.zero_add, Nat.not_lt_zero, not_false_eq_true, not_true_eq_false, and_assoc, kl_q, kl_i, kl_r, kl_n, kl_0, kl_l, cs_0, cs_i, cs_r, cs_n, cs_l, aRf_s, aRf_n, gi_wl, gi_wr, gl_wi, gl_wl, gl_wr, gr_wi, gr_wl, gr_wr, sh_wi, sh_wl, sh_wr, gl_cp, gr_cp, sh_cp, gl_rw, gr_rw, sh_rw, gi_rl, gr_rl, sh_rl, Option.toList_some, Option.toList_none, List.nil_append, List.cons_append, List.append_nil, Option.some.injEq, Prod.mk.injEq, and_true, true_and, and_self, if_true, if_false, reduceCtorEq, Nat.reduceLeDiff, Nat.reduceLT, Nat.reduceAdd, Nat.reduceEqDiff, false_and, and_false, exists_const, exists_eq_left, exists_eq_left', exists_and_left, and_assoc, nltL, nltR, nleL, nleR, neqL, neqR, naL, naR, nmL, nmR, nI_ltI, nI_leI, nI_eq, nI_add, nI_mul, nI_clamp, n0l, n0r, nm1, nm1', nm1l, nm1r, nm1g, nsL, nI_m1, Nat.add_sub_cancel, vpn, vpL, nclL, le32, leLL, leLN, leNL, leNN, inA, nb0, nb1, gi_wi_n, gi_wi_e, gi_rw_n, gi_rw_e, aWi_rw, ifl, ifl_, ifle, ifle_, ifq, ifq_, ifnq, ifnq_, ifnl, ifnl_, ifnle, ifnle_, e0, e1, f0, f1]
  rw [sp_row (n := 6) f6 e6 (by omega) (by decide), aCp_rw]
  simp (disch := omega) only [s69_0, s69_0n, s69_1, s69_4, s69_4n, s69_5, s69_8, s69_11, s69_11n, s69_12, s69_15, s69_15n, s69_16, s69_19, s69_22, s69_22n, s69_23, s69_26, s69_26n, s69_27, s69_30, s69_33, s69_33n, s69_34, s69_37, s69_37n, s69_38, s69_41, s69_44, s69_44n, s69_45, s69_48, s69_48n, s69_49, s69_52, s69_55, s69_55n, s69_56, s69_56n, s69_57, s69_60, s69_63, s69_63n, s69_64, s69_64n, s69_65, s69_68, s69_71, s69_71n, s69_72, s69_72n, s69_73, s69_76, s69_79, s69_79n, s69_80, s69_80n, s69_81, s69_84, s69_87, true_or, or_true, or_false, false_or, or_self, Int32.reduceLT, Int32.reduceLE, Nat.add_zero, Nat.zero_add, Nat.not_lt_zero, not_false_eq_true, not_true_eq_false, and_assoc, kl_q, kl_i, kl_r, kl_n, kl_0, kl_l, cs_0, cs_i, cs_r, cs_n, cs_l, aRf_s, aRf_n, gi_wl, gi_wr, gl_wi, gl_wl, gl_wr, gr_wi, gr_wl, gr_wr, sh_wi, sh_wl, sh_wr, gl_cp, gr_cp, sh_cp, gl_rw, gr_rw, sh_rw, gi_rl, gr_rl, sh_rl, Option.toList_some, Option.toList_none, List.nil_append, List.cons_append, List.append_nil, Option.some.injEq, Prod.mk.injEq, and_true, true_and, and_self, if_true, if_false, reduceCtorEq, Nat.reduceLeDiff, Nat.reduceLT, Nat.reduceAdd, Nat.reduceEqDiff, false_and, and_false, exists_const, exists_eq_left, exists_eq_left', exists_and_left, and_assoc, nltL, nltR, nleL, nleR, neqL, neqR, naL, naR, nmL, nmR, nI_ltI, nI_leI, nI_eq, nI_add, nI_mul, nI_clamp, n0l, n0r, nm1, nm1', nm1l, nm1r, nm1g, nsL, nI_m1, Nat.add_sub_cancel, vpn, vpL, nclL, le32, leLL, leLN, leNL, leNN, inA, nb0, nb1, gi_wi_n, gi_wi_e, gi_rw_n, gi_rw_e, aWi_rw, ifl, ifl_, ifle, ifle_, ifq, ifq_, ifnq, ifnq_, ifnl, ifnl_, ifnle, ifnle_, e0, e2, f0, f2]
  rw [sp_row (n := 6) (by simp only [true_or, or_true, or_false, false_or, or_self, Int32.reduceLT, Int32.reduceLE, Nat.add_zero, Nat.zero_add, Nat.not_lt_zero, not_false_eq_true, not_true_eq_false, and_assoc, kl_q, kl_i, kl_r, kl_n, kl_0, kl_l, cs_0, cs_i, cs_r, cs_n, cs_l, aRf_s, aRf_n, gi_wl, gi_wr, gl_wi, gl_wl, gl_wr, gr_wi, gr_wl, gr_wr, sh_wi, sh_wl, sh_wr, gl_cp, gr_cp, sh_cp, gl_rw, gr_rw, sh_rw, gi_rl, gr_rl, sh_rl, Option.toList_some, Option.toList_none, List.nil_append, List.cons_append, List.append_nil, Option.some.injEq, Prod.mk.injEq, and_true, true_and, and_self, if_true, if_false, reduceCtorEq, Nat.reduceLeDiff, Nat.reduceLT, Nat.reduceAdd, Nat.reduceEqDiff, false_and, and_false, exists_const, exists_eq_left, exists_eq_left', exists_and_left, and_assoc]; exact f7) (by simp only [true_or, or_true, or_false, false_or, or_self, Int32.reduceLT, Int32.reduceLE, Nat.add_zero, Nat.zero_add, Nat.not_lt_zero, not_false_eq_true, not_true_eq_false, and_assoc, kl_q, kl_i, kl_r, kl_n, kl_0, kl_l, cs_0, cs_i, cs_r, cs_n, cs_l, aRf_s, aRf_n, gi_wl, gi_wr, gl_wi, gl_wl, gl_wr, gr_wi, gr_wl, gr_wr, sh_wi, sh_wl, sh_wr, gl_cp, gr_cp, sh_cp, gl_rw, gr_rw, sh_rw, gi_rl, gr_rl, sh_rl, Option.toList_some, Option.toList_none, List.nil_append, List.cons_append, List.append_nil, Option.some.injEq, Prod.mk.injEq, and_true, true_and, and_self, if_true, if_false, reduceCtorEq, Nat.reduceLeDiff, Nat.reduceLT, Nat.reduceAdd, Nat.reduceEqDiff, false_and, and_false, exists_const, exists_eq_left, exists_eq_left', exists_and_left, and_assoc]; exact e7) (by omega) (by decide), aCp_rw]
  simp (disch := omega) only [s69_0, s69_0n, s69_1, s69_4, s69_4n, s69_5, s69_8, s69_11, s69_11n, s69_12, s69_15, s69_15n, s69_16, s69_19, s69_22, s69_22n, s69_23, s69_26, s69_26n, s69_27, s69_30, s69_33, s69_33n, s69_34, s69_37, s69_37n, s69_38, s69_41, s69_44, s69_44n, s69_45, s69_48, s69_48n, s69_49, s69_52, s69_55, s69_55n, s69_56, s69_56n, s69_57, s69_60, s69_63, s69_63n, s69_64, s69_64n, s69_65, s69_68, s69_71, s69_71n, s69_72, s69_72n, s69_73, s69_76, s69_79, s69_79n, s69_80, s69_80n, s69_81, s69_84, s69_87, true_or, or_true, or_false, false_or, or_self, Int32.reduceLT, Int32.reduceLE, Nat.add_zero, Nat.zero_add, Nat.not_lt_zero, not_false_eq_true, not_true_eq_false, and_assoc, kl_q, kl_i, kl_r, kl_n, kl_0, kl_l, cs_0, cs_i, cs_r, cs_n, cs_l, aRf_s, aRf_n, gi_wl, gi_wr, gl_wi, gl_wl, gl_wr, gr_wi, gr_wl, gr_wr, sh_wi, sh_wl, sh_wr, gl_cp, gr_cp, sh_cp, gl_rw, gr_rw, sh_rw, gi_rl, gr_rl, sh_rl, Option.toList_some, Option.toList_none, List.nil_append, List.cons_append, List.append_nil, Option.some.injEq, Prod.mk.injEq, and_true, true_and, and_self, if_true, if_false, reduceCtorEq, Nat.reduceLeDiff, Nat.reduceLT, Nat.reduceAdd, Nat.reduceEqDiff, false_and, and_false, exists_const, exists_eq_left, exists_eq_left', exists_and_left, and_assoc, nltL, nltR, nleL, nleR, neqL, neqR, naL, naR, nmL, nmR, nI_ltI, nI_leI, nI_eq, nI_add, nI_mul, nI_clamp, n0l, n0r, nm1, nm1', nm1l, nm1r, nm1g, nsL, nI_m1, Nat.add_sub_cancel, vpn, vpL, nclL, le32, leLL, leLN, leNL, leNN, inA, nb0, nb1, gi_wi_n, gi_wi_e, gi_rw_n, gi_rw_e, aWi_rw, ifl, ifl_, ifle, ifle_, ifq, ifq_, ifnq, ifnq_, ifnl, ifnl_, ifnle, ifnle_, e0, e3, f0, f3]
  rw [sp_row (n := 6) (by simp only [true_or, or_true, or_false, false_or, or_self, Int32.reduceLT, Int32.reduceLE, Nat.add_zero, Nat.zero_add, Nat.not_lt_zero, not_false_eq_true, not_true_eq_false, and_assoc, kl_q, kl_i, kl_r, kl_n, kl_0, kl_l, cs_0, cs_i, cs_r, cs_n, cs_l, aRf_s, aRf_n, gi_wl, gi_wr, gl_wi, gl_wl, gl_wr, gr_wi, gr_wl, gr_wr, sh_wi, sh_wl, sh_wr, gl_cp, gr_cp, sh_cp, gl_rw, gr_rw, sh_rw, gi_rl, gr_rl, sh_rl, Option.toList_some, Option.toList_none, List.nil_append, List.cons_append, List.append_nil, Option.some.injEq, Prod.mk.injEq, and_true, true_and, and_self, if_true, if_false, reduceCtorEq, Nat.reduceLeDiff, Nat.reduceLT, Nat.reduceAdd, Nat.reduceEqDiff, false_and, and_false, exists_const, exists_eq_left, exists_eq_left', exists_and_left, and_assoc]; exact f8) (by simp only [true_or, or_true, or_false, false_or, or_self, Int32.reduceLT, Int32.reduceLE, Nat.add_zero, Nat.zero_add, Nat.not_lt_zero, not_false_eq_true, not_true_eq_false, and_assoc, kl_q, kl_i, kl_r, kl_n, kl_0, kl_l, cs_0, cs_i, cs_r, cs_n, cs_l, aRf_s, aRf_n, gi_wl, gi_wr, gl_wi, gl_wl, gl_wr, gr_wi, gr_wl, gr_wr, sh_wi, sh_wl, sh_wr, gl_cp, gr_cp, sh_cp, gl_rw, gr_rw, sh_rw, gi_rl, gr_rl, sh_rl, Option.toList_some, Option.toList_none, List.nil_append, List.cons_append, List.append_nil, Option.some.injEq, Prod.mk.injEq, and_true, true_and, and_self, if_true, if_false, reduceCtorEq, Nat.reduceLeDiff, Nat.reduceLT, Nat.reduceAdd, Nat.reduceEqDiff, false_and, and_false, exists_const, exists_eq_left, exists_eq_left', exists_and_left, and_assoc]; exact e8) (by omega) (by decide), aCp_rw]
  simp (disch := omega) only [s69_0, s69_0n, s69_1, s69_4, s69_4n, s69_5, s69_8, s69_11, s69_11n, s69_12, s69_15, s69_15n, s69_16, s69_19, s69_22, s69_22n, s69_23, s69_26, s69_26n, s69_27, s69_30, s69_33, s69_33n, s69_34, s69_37, s69_37n, s69_38, s69_41, s69_44, s69_44n, s69_45, s69_48, s69_48n, s69_49, s69_52, s69_55, s69_55n, s69_56, s69_56n, s69_57, s69_60, s69_63, s69_63n, s69_64, s69_64n, s69_65, s69_68, s69_71, s69_71n, s69_72, s69_72n, s69_73, s69_76, s69_79, s69_79n, s69_80, s69_80n, s69_81, s69_84, s69_87, true_or, or_true, or_false, false_or, or_self, Int32.reduceLT, Int32.reduceLE, Nat.add_zero, Nat.zero_add, Nat.not_lt_zero, not_false_eq_true, not_true_eq_false, and_assoc, kl_q, kl_i, kl_r, kl_n, kl_0, kl_l, cs_0, cs_i, cs_r, cs_n, cs_l, aRf_s, aRf_n, gi_wl, gi_wr, gl_wi, gl_wl, gl_wr, gr_wi, gr_wl, gr_wr, sh_wi, sh_wl, sh_wr, gl_cp, gr_cp, sh_cp, gl_rw, gr_rw, sh_rw, gi_rl, gr_rl, sh_rl, Option.toList_some, Option.toList_none, List.nil_append, List.cons_append, List.append_nil, Option.some.injEq, Prod.mk.injEq, and_true, true_and, and_self, if_true, if_false, reduceCtorEq, Nat.reduceLeDiff, Nat.reduceLT, Nat.reduceAdd, Nat.reduceEqDiff, false_and, and_false, exists_const, exists_eq_left, exists_eq_left', exists_and_left, and_assoc, nltL, nltR, nleL, nleR, neqL, neqR, naL, naR, nmL, nmR, nI_ltI, nI_leI, nI_eq, nI_add, nI_mul, nI_clamp, n0l, n0r, nm1, nm1', nm1l, nm1r, nm1g, nsL, nI_m1, Nat.add_sub_cancel, vpn, vpL, nclL, le32, leLL, leLN, leNL, leNN, inA, nb0, nb1, gi_wi_n, gi_wi_e, gi_rw_n, gi_rw_e, aWi_rw, ifl, ifl_, ifle, ifle_, ifq, ifq_, ifnq, ifnq_, ifnl, ifnl_, ifnle, ifnle_, e0, e4, f0, f4]
  rw [sp_row (n := 6) (by simp only [true_or, or_true, or_false, false_or, or_self, Int32.reduceLT, Int32.reduceLE, Nat.add_zero, Nat.zero_add, Nat.not_lt_zero, not_false_eq_true, not_true_eq_false, and_assoc, kl_q, kl_i, kl_r, kl_n, kl_0, kl_l, cs_0, cs_i, cs_r, cs_n, cs_l, aRf_s, aRf_n, gi_wl, gi_wr, gl_wi, gl_wl, gl_wr, gr_wi, gr_wl, gr_wr, sh_wi, sh_wl, sh_wr, gl_cp, gr_cp, sh_cp, gl_rw, gr_rw, sh_rw, gi_rl, gr_rl, sh_rl, Option.toList_some, Option.toList_none, List.nil_append, List.cons_append, List.append_nil, Option.some.injEq, Prod.mk.injEq, and_true, true_and, and_self, if_true, if_false, reduceCtorEq, Nat.reduceLeDiff, Nat.reduceLT, Nat.reduceAdd, Nat.reduceEqDiff, false_and, and_false, exists_const, exists_eq_left, exists_eq_left', exists_and_left, and_assoc]; exact f9) (by simp only [true_or, or_true, or_false, false_or, or_self, Int32.reduceLT, Int32.reduceLE, Nat.add_zero, Nat.zero_add, Nat.not_lt_zero, not_false_eq_true, not_true_eq_false, and_assoc, kl_q, kl_i, kl_r, kl_n, kl_0, kl_l, cs_0, cs_i, cs_r, cs_n, cs_l, aRf_s, aRf_n, gi_wl, gi_wr, gl_wi, gl_wl, gl_wr, gr_wi, gr_wl, gr_wr, sh_wi, sh_wl, sh_wr, gl_cp, gr_cp, sh_cp, gl_rw, gr_rw, sh_rw, gi_rl, gr_rl, sh_rl, Option.toList_some, Option.toList_none, List.nil_append, List.cons_append, List.append_nil, Option.some.injEq, Prod.mk.injEq, and_true, true_and, and_self, if_true, if_false, reduceCtorEq, Nat.reduceLeDiff, Nat.reduceLT, Nat.reduceAdd, Nat.reduceEqDiff, false_and, and_false, exists_const, exists_eq_left, exists_eq_left', exists_and_left, and_assoc]; exact e9) (by omega) (by decide), aCp_rw]
  simp (disch := omega) only [s69_0, s69_0n, s69_1, s69_4, s69_4n, s69_5, s69_8, s69_11, s69_11n, s69_12, s69_15, s69_15n, s69_16, s69_19, s69_22, s69_22n, s69_23, s69_26, s69_26n, s69_27, s69_30, s69_33, s69_33n, s69_34, s69_37, s69_37n, s69_38, s69_41, s69_44, s69_44n, s69_45, s69_48, s69_48n, s69_49, s69_52, s69_55, s69_55n, s69_56, s69_56n, s69_57, s69_60, s69_63, s69_63n, s69_64, s69_64n, s69_65, s69_68, s69_71, s69_71n, s69_72, s69_72n, s69_73, s69_76, s69_79, s69_79n, s69_80, s69_80n, s69_81, s69_84, s69_87, true_or, or_true, or_false, false_or, or_self, Int32.reduceLT, Int32.reduceLE, Nat.add_zero, Nat.zero_add, Nat.not_lt_zero, not_false_eq_true, not_true_eq_false, and_assoc, kl_q, kl_i, kl_r, kl_n, kl_0, kl_l, cs_0, cs_i, cs_r, cs_n, cs_l, aRf_s, aRf_n, gi_wl, gi_wr, gl_wi, gl_wl, gl_wr, gr_wi, gr_wl, gr_wr, sh_wi, sh_wl, sh_wr, gl_cp, gr_cp, sh_cp, gl_rw, gr_rw, sh_rw, gi_rl, gr_rl, sh_rl, Option.toList_some, Option.toList_none, List.nil_append, List.cons_append, List.append_nil, Option.some.injEq, Prod.mk.injEq, and_true, true_and, and_self, if_true, if_false, reduceCtorEq, Nat.reduceLeDiff, Nat.reduceLT, Nat.reduceAdd, Nat.reduceEqDiff, false_and, and_false, exists_const, exists_eq_left, exists_eq_left', exists_and_left, and_assoc, nltL, nltR, nleL, nleR, neqL, neqR, naL, naR, nmL, nmR, nI_ltI, nI_leI, nI_eq, nI_add, nI_mul, nI_clamp, n0l, n0r, nm1, nm1', nm1l, nm1r, nm1g, nsL, nI_m1, Nat.add_sub_cancel, vpn, vpL, nclL, le32, leLL, leLN, leNL, leNN, inA, nb0, nb1, gi_wi_n, gi_wi_e, gi_rw_n, gi_rw_e, aWi_rw, ifl, ifl_, ifle, ifle_, ifq, ifq_, ifnq, ifnq_, ifnl, ifnl_, ifnle, ifnle_, e0, e5, f0, f5]
  rw [sp_row (n := 5) (by simp only [true_or, or_true, or_false, false_or, or_self, Int32.reduceLT, Int32.reduceLE, Nat.add_zero, Nat.zero_add, Nat.not_lt_zero, not_false_eq_true, not_true_eq_false, and_assoc, kl_q, kl_i, kl_r, kl_n, kl_0, kl_l, cs_0, cs_i, cs_r, cs_n, cs_l, aRf_s, aRf_n, gi_wl, gi_wr, gl_wi, gl_wl, gl_wr, gr_wi, gr_wl, gr_wr, sh_wi, sh_wl, sh_wr, gl_cp, gr_cp, sh_cp, gl_rw, gr_rw, sh_rw, gi_rl, gr_rl, sh_rl, Option.toList_some, Option.toList_none, List.nil_append, List.cons_append, List.append_nil, Option.some.injEq, Prod.mk.injEq, and_true, true_and, and_self, if_true, if_false, reduceCtorEq, Nat.reduceLeDiff, Nat.reduceLT, Nat.reduceAdd, Nat.reduceEqDiff, false_and, and_false, exists_const, exists_eq_left, exists_eq_left', exists_and_left, and_assoc]; exact f10) (by simp only [true_or, or_true, or_false, false_or, or_self, Int32.reduceLT, Int32.reduceLE, Nat.add_zero, Nat.zero_add, Nat.not_lt_zero, not_false_eq_true, not_true_eq_false, and_assoc, kl_q, kl_i, kl_r, kl_n, kl_0, kl_l, cs_0, cs_i, cs_r, cs_n, cs_l, aRf_s, aRf_n, gi_wl, gi_wr, gl_wi, gl_wl, gl_wr, gr_wi, gr_wl, gr_wr, sh_wi, sh_wl, sh_wr, gl_cp, gr_cp, sh_cp, gl_rw, gr_rw, sh_rw, gi_rl, gr_rl, sh_rl, Option.toList_some, Option.toList_none, List.nil_append, List.cons_append, List.append_nil, Option.some.injEq, Prod.mk.injEq, and_true, true_and, and_self, if_true, if_false, reduceCtorEq, Nat.reduceLeDiff, Nat.reduceLT, Nat.reduceAdd, Nat.reduceEqDiff, false_and, and_false, exists_const, exists_eq_left, exists_eq_left', exists_and_left, and_assoc]; exact e10) (by omega) (by decide), aCp_rw]
  simp (disch := omega) only [s69_0, s69_0n, s69_1, s69_4, s69_4n, s69_5, s69_8, s69_11, s69_11n, s69_12, s69_15, s69_15n, s69_16, s69_19, s69_22, s69_22n, s69_23, s69_26, s69_26n, s69_27, s69_30, s69_33, s69_33n, s69_34, s69_37, s69_37n, s69_38, s69_41, s69_44, s69_44n, s69_45, s69_48, s69_48n, s69_49, s69_52, s69_55, s69_55n, s69_56, s69_56n, s69_57, s69_60, s69_63, s69_63n, s69_64, s69_64n, s69_65, s69_68, s69_71, s69_71n, s69_72, s69_72n, s69_73, s69_76, s69_79, s69_79n, s69_80, s69_80n, s69_81, s69_84, s69_87, true_or, or_true, or_false, false_or, or_self, Int32.reduceLT, Int32.reduceLE, Nat.add_zero, Nat.zero_add, Nat.not_lt_zero, not_false_eq_true, not_true_eq_false, and_assoc, kl_q, kl_i, kl_r, kl_n, kl_0, kl_l, cs_0, cs_i, cs_r, cs_n, cs_l, aRf_s, aRf_n, gi_wl, gi_wr, gl_wi, gl_wl, gl_wr, gr_wi, gr_wl, gr_wr, sh_wi, sh_wl, sh_wr, gl_cp, gr_cp, sh_cp, gl_rw, gr_rw, sh_rw, gi_rl, gr_rl, sh_rl, Option.toList_some, Option.toList_none, List.nil_append, List.cons_append, List.append_nil, Option.some.injEq, Prod.mk.injEq, and_true, true_and, and_self, if_true, if_false, reduceCtorEq, Nat.reduceLeDiff, Nat.reduceLT, Nat.reduceAdd, Nat.reduceEqDiff, false_and, and_false, exists_const, exists_eq_left, exists_eq_left', exists_and_left, and_assoc, nltL, nltR, nleL, nleR, neqL, neqR, naL, naR, nmL, nmR, nI_ltI, nI_leI, nI_eq, nI_add, nI_mul, nI_clamp, n0l, n0r, nm1, nm1', nm1l, nm1r, nm1g, nsL, nI_m1, Nat.add_sub_cancel, vpn, vpL, nclL, le32, leLL, leLN, leNL, leNN, inA, nb0, nb1, gi_wi_n, gi_wi_e, gi_rw_n, gi_rw_e, aWi_rw, ifl, ifl_, ifle, ifle_, ifq, ifq_, ifnq, ifnq_, ifnl, ifnl_, ifnle, ifnle_, e0, f0, h32]
  have z : ∀ i k, i ≤ 5 → BZ S (S + i) k := fun i k hi => by
    unfold BZ
    omega
  refine hq _ ?_ (fun M F s hM hF st => ?_)
  · have r0 := Ag.refl (Z := BZ S) ok
    exact ((((((((r0.rw (z 1 · (by omega))).rw (z 2 · (by omega))).rw (z 3 · (by omega))).rw (z 4 · (by omega))).rw (z 5 · (by omega))).wi (z 0 _ (by omega))).wi (z 0 _ (by omega))).wi (z 0 _ (by omega))).wi (z 0 _ (by omega))
  · obtain ⟨s1, s2, s3, s4, s5, s6⟩ := st
    refine ⟨fun k hk => ?_, fun f hf => ?_, ?_, ?_, ?_, ?_⟩
    · have hk6 : k < 6 := by omega
      have := s1 k hk
      refine ⟨?_, ?_, ?_, ?_⟩
      · simp (disch := omega) only [gi_wi_n, gi_rw_n, gi_rw_e, hk6, if_true]
        exact this.1
      · simp (disch := omega) only [gi_wi_n, gi_rw_n, gi_rw_e, hk6, if_true]
        exact this.2.1
      · simp (disch := omega) only [gi_wi_n, gi_rw_n, gi_rw_e, hk6, if_true]
        exact this.2.2.1
      · simp (disch := omega) only [gi_wi_n, gi_rw_n, gi_rw_e, hk6, if_true]
        exact this.2.2.2
    · have hf5 : f < 5 := by omega
      simp (disch := omega) only [gi_wi_n, gi_rw_n, gi_rw_e, hf5, if_true]
      exact s2 f hf
    · simp (disch := omega) only [gi_wi_n, gi_wi_e, gi_rw_n]
      exact s3
    · simp (disch := omega) only [gi_wi_n, gi_wi_e, gi_rw_n]
      exact s4
    · simp (disch := omega) only [gi_wi_n, gi_wi_e, gi_rw_n]
      exact s5
    · simp (disch := omega) only [gi_wi_n, gi_wi_e, gi_rw_n]
      exact s6
def kpK (c : Nat) (ks : Nat → Nat → Int32) (s : Nat → Int32) (i : Nat) : Nat → Int32 := if i + 1 = min 40 (c + 1) then s else ks (i + (c + 1 - min 40 (c + 1)))
def kpD (c : Nat) (Dk : Nat → Nat) (D' i : Nat) : Nat := if i = min 40 (c + 1) then D' else Dk (i + (c + 1 - min 40 (c + 1)))
def nxt (nx : Nat) : Nat := if nx + 1 < 40 then nx + 1 else 0
theorem kb_keep (kb : KB M c nx D ks Dk) (sb : SB M s D) {D' : Nat} (hD : D' = D ∨ D' = D + 1) : KB M (min 40 (c + 1)) (nxt nx) D' (kpK c ks s) (kpD c Dk D') := by
  obtain ⟨b1, b2, b3, b4, b5⟩ := kb
  refine ⟨by omega, ?_, fun i hi => ?_, ?_, fun i hi => ?_⟩
  · unfold nxt
    split <;> omega
  · rw [show kpD c Dk D' i = Dk (i + (c + 1 - min 40 (c + 1))) from if_neg (by omega)]
    unfold kpK
    by_cases h1 : i + 1 = min 40 (c + 1)
    · rw [if_pos h1, show i + (c + 1 - min 40 (c + 1)) = c by omega, b4]
      exact sb
    · rw [if_neg h1]
      exact b3 _ (by omega)
  · unfold kpD
    rw [if_pos rfl]
  · unfold kpD
    rw [if_neg (by omega)]
    by_cases h1 : i + 1 = min 40 (c + 1)
    · rw [if_pos h1, show i + (c + 1 - min 40 (c + 1)) = c by omega, b4]
      omega
    · rw [if_neg h1, show i + 1 + (c + 1 - min 40 (c + 1)) = i + (c + 1 - min 40 (c + 1)) + 1 by omega]
      exact b5 _ (by omega)
/-- the earliest day kept -/
theorem kb_0 (kb : KB M c nx D ks Dk) : Dk 0 ≤ D ∧ D ≤ Dk 0 + c := by
  obtain ⟨b1, b2, b3, b4, b5⟩ := kb
  have : ∀ i, i ≤ c → Dk 0 ≤ Dk i ∧ Dk i ≤ Dk 0 + i := by
    intro i
    induction i with
    | zero => intro _; omega
    | succ i ih =>
      intro hi
      have h1 := ih (by omega)
      have h2 := b5 i (by omega)
      omega
  have := this c (Nat.le_refl _)
  omega
theorem kpD_0 (kb : KB M c nx D ks Dk) {D' : Nat} : Dk 0 ≤ kpD c Dk D' 0 ∧ kpD c Dk D' 0 ≤ D ∧ D ≤ kpD c Dk D' 0 + 39 := by
  obtain ⟨b1, b2, b3, b4, b5⟩ := id kb
  have h0 := kb_0 kb
  unfold kpD
  rw [if_neg (by omega), Nat.zero_add]
  by_cases hc : c < 40
  · rw [show c + 1 - min 40 (c + 1) = 0 by omega]
    omega
  · have hc2 : c = 40 := by omega
    rw [show c + 1 - min 40 (c + 1) = 1 by omega]
    have h1 := b5 0 (by omega)
    simp only [Nat.zero_add] at h1
    have : ∀ i, 1 ≤ i → i ≤ c → Dk 1 ≤ Dk i ∧ Dk i + 1 ≤ Dk 1 + i := by
      intro i
      induction i with
      | zero => intro h; omega
      | succ i ih =>
        intro _ hi
        by_cases hi0 : i = 0
        · subst hi0
          simp only [Nat.zero_add]
          omega
        · have h2 := ih (by omega) (by omega)
          have h3 := b5 i (by omega)
          omega
    have := this c (by omega) (Nat.le_refl _)
    omega
def AZ (nx a k : Nat) : Prop := BZ (91 + 6 * nx) a k ∨ (a = 89 ∧ (k = 1 ∨ k = 2))
theorem c_actsKeep (ok : OK h) (hM : M ≤ 6) (hF : F ≤ 5) (hc : c ≤ 40) (hn : nx < 40) (st : StC h M F 79 s) (kc : KC h M F c nx ks) (hq : ∀ h', Ag (AZ nx) h h' → KC h' M F (min 40 (c + 1)) (nxt nx) (kpK c ks s) → Q none h') : AW (d + 3) 3 0 [some (.ref 89), some (.ref 79)] [] h Q := by
  obtain ⟨k1, k2, k3⟩ := kc
  simp (disch := omega) only [s3_0, s3_0n, s3_1, s3_4, s3_4n, s3_5, s3_8, s3_9, s3_9n, s3_10, s3_13, s3_13n, s3_14, s3_14n, s3_15, s3_18, s3_19, s3_20, s3_22, s3_25, s3_25n, s3_26, s3_29, s3_30, s3_31, s3_34, s3_35, s3_38, s3_38n, s3_39, s3_41, s3_41n, s3_42, s3_45, s3_46, s3_47, s3_50, s3_53, true_or, or_true, or_false, false_or, or_self, Int32.reduceLT, Int32.reduceLE, Nat.add_zero, Nat.zero_add, Nat.not_lt_zero, not_false_eq_true, not_true_eq_false, and_assoc, kl_q, kl_i, kl_r, kl_n, kl_0, kl_l, cs_0, cs_i, cs_r, cs_n, cs_l, aRf_s, aRf_n, gi_wl, gi_wr, gl_wi, gl_wl, gl_wr, gr_wi, gr_wl, gr_wr, sh_wi, sh_wl, sh_wr, gl_cp, gr_cp, sh_cp, gl_rw, gr_rw, sh_rw, gi_rl, gr_rl, sh_rl, Option.toList_some, Option.toList_none, List.nil_append, List.cons_append, List.append_nil, Option.some.injEq, Prod.mk.injEq, and_true, true_and, and_self, if_true, if_false, reduceCtorEq, Nat.reduceLeDiff, Nat.reduceLT, Nat.reduceAdd, Nat.reduceEqDiff, false_and, and_false, exists_const, exists_eq_left, exists_eq_left', exists_and_left, and_assoc, nltL, nltR, nleL, nleR, neqL, neqR, naL, naR, nmL, nmR, nI_ltI, nI_leI, nI_eq, nI_add, nI_mul, nI_clamp, n0l, n0r, nm1, nm1', nm1l, nm1r, nm1g, nsL, nI_m1, Nat.add_sub_cancel, vpn, vpL, nclL, le32, leLL, leLN, leNL, leNN, inA, nb0, nb1, gi_wi_n, gi_wi_e, gi_rw_n, gi_rw_e, aWi_rw, ifl, ifl_, ifle, ifle_, ifq, ifq_, ifnq, ifnq_, ifnl, ifnl_, ifnle, ifnle_, z89 ok, z90 ok, r89_0 ok, k1, hn, g90 ok hn, q91 ok hn]
  refine c_copyS ok (bk91 hn) bk79 (by omega) (fun h1 a1 t1 => ?_)
  have ok1 := a1.1
  have e1 : gi h1 89 1 = nI nx := by rw [a1.2 _ _ (by unfold BZ; omega), k1]
  have e2 : gi h1 89 2 = nI c := by rw [a1.2 _ _ (by unfold BZ; omega), k2]
  have fin : ∀ x, x = nI (nxt nx) → Q none (aWi (aWi h1 89 1 x) 89 2 (nI (min 40 (c + 1)))) := by
    intro x hx
    refine hq _ (((a1.mono (fun a k z => Or.inl z)).wi (Or.inr ⟨rfl, Or.inl rfl⟩)).wi (Or.inr ⟨rfl, Or.inr rfl⟩)) ⟨?_, gi_wi_e, fun i hi => ?_⟩
    · rw [gi_wi_n (by omega), gi_wi_e, hx]
    · have q : ∀ S, 91 ≤ S → StC h1 M F S (kpK c ks s i) → StC (aWi (aWi h1 89 1 x) 89 2 (nI (min 40 (c + 1)))) M F S (kpK c ks s i) := fun S hS t => t.eq (fun b k hb => by rw [gi_wi_n (by omega), gi_wi_n (by omega)])
      apply q _ (by omega)
      unfold kpK
      by_cases h1 : i + 1 = min 40 (c + 1)
      · rw [if_pos h1, show (nxt nx + 40 - min 40 (c + 1) + i) % 40 = nx by unfold nxt; split <;> omega]
        exact t1 M F s hM hF st
      · rw [if_neg h1, show (nxt nx + 40 - min 40 (c + 1) + i) % 40 = (nx + 40 - c + (i + (c + 1 - min 40 (c + 1)))) % 40 by unfold nxt; split <;> omega]
        refine (k3 _ (by omega)).eq (fun b k hb => a1.2 _ _ ?_)
        unfold BZ
        omega
  have emn : imin 40 (nI (c + 1)) = nI (min 40 (c + 1)) := by
    unfold imin
    by_cases h1 : c + 1 < 40
    · rw [if_pos (show nI (c + 1) < (40 : Int32) from (nI_ltI (b := 40) (by omega) (by omega)).mpr h1), Nat.min_eq_right (by omega)]
    · rw [if_neg (show ¬ nI (c + 1) < (40 : Int32) from fun q => h1 ((nI_ltI (b := 40) (by omega) (by omega)).mp q)), Nat.min_eq_left (by omega)]
      rfl
  by_cases h1 : nx + 1 < 40
  · simp (disch := omega) only [s3_0, s3_0n, s3_1, s3_4, s3_4n, s3_5, s3_8, s3_9, s3_9n, s3_10, s3_13, s3_13n, s3_14, s3_14n, s3_15, s3_18, s3_19, s3_20, s3_22, s3_25, s3_25n, s3_26, s3_29, s3_30, s3_31, s3_34, s3_35, s3_38, s3_38n, s3_39, s3_41, s3_41n, s3_42, s3_45, s3_46, s3_47, s3_50, s3_53, true_or, or_true, or_false, false_or, or_self, Int32.reduceLT, Int32.reduceLE, Nat.add_zero, Nat.zero_add, Nat.not_lt_zero, not_false_eq_true, not_true_eq_false, and_assoc, kl_q, kl_i, kl_r, kl_n, kl_0, kl_l, cs_0, cs_i, cs_r, cs_n, cs_l, aRf_s, aRf_n, gi_wl, gi_wr, gl_wi, gl_wl, gl_wr, gr_wi, gr_wl, gr_wr, sh_wi, sh_wl, sh_wr, gl_cp, gr_cp, sh_cp, gl_rw, gr_rw, sh_rw, gi_rl, gr_rl, sh_rl, Option.toList_some, Option.toList_none, List.nil_append, List.cons_append, List.append_nil, Option.some.injEq, Prod.mk.injEq, and_true, true_and, and_self, if_true, if_false, reduceCtorEq, Nat.reduceLeDiff, Nat.reduceLT, Nat.reduceAdd, Nat.reduceEqDiff, false_and, and_false, exists_const, exists_eq_left, exists_eq_left', exists_and_left, and_assoc, nltL, nltR, nleL, nleR, neqL, neqR, naL, naR, nmL, nmR, nI_ltI, nI_leI, nI_eq, nI_add, nI_mul, nI_clamp, n0l, n0r, nm1, nm1', nm1l, nm1r, nm1g, nsL, nI_m1, Nat.add_sub_cancel, vpn, vpL, nclL, le32, leLL, leLN, leNL, leNN, inA, nb0, nb1, gi_wi_n, gi_wi_e, gi_rw_n, gi_rw_e, aWi_rw, ifl, ifl_, ifle, ifle_, ifq, ifq_, ifnq, ifnq_, ifnl, ifnl_, ifnle, ifnle_, z89 ok1, e1, e2, h1, sp_min, emn]
    apply fin
    unfold nxt
    rw [if_pos h1]
  · simp (disch := omega) only [s3_0, s3_0n, s3_1, s3_4, s3_4n, s3_5, s3_8, s3_9, s3_9n, s3_10, s3_13, s3_13n, s3_14, s3_14n, s3_15, s3_18, s3_19, s3_20, s3_22, s3_25, s3_25n, s3_26, s3_29, s3_30, s3_31, s3_34, s3_35, s3_38, s3_38n, s3_39, s3_41, s3_41n, s3_42, s3_45, s3_46, s3_47, s3_50, s3_53, true_or, or_true, or_false, false_or, or_self, Int32.reduceLT, Int32.reduceLE, Nat.add_zero, Nat.zero_add, Nat.not_lt_zero, not_false_eq_true, not_true_eq_false, and_assoc, kl_q, kl_i, kl_r, kl_n, kl_0, kl_l, cs_0, cs_i, cs_r, cs_n, cs_l, aRf_s, aRf_n, gi_wl, gi_wr, gl_wi, gl_wl, gl_wr, gr_wi, gr_wl, gr_wr, sh_wi, sh_wl, sh_wr, gl_cp, gr_cp, sh_cp, gl_rw, gr_rw, sh_rw, gi_rl, gr_rl, sh_rl, Option.toList_some, Option.toList_none, List.nil_append, List.cons_append, List.append_nil, Option.some.injEq, Prod.mk.injEq, and_true, true_and, and_self, if_true, if_false, reduceCtorEq, Nat.reduceLeDiff, Nat.reduceLT, Nat.reduceAdd, Nat.reduceEqDiff, false_and, and_false, exists_const, exists_eq_left, exists_eq_left', exists_and_left, and_assoc, nltL, nltR, nleL, nleR, neqL, neqR, naL, naR, nmL, nmR, nI_ltI, nI_leI, nI_eq, nI_add, nI_mul, nI_clamp, n0l, n0r, nm1, nm1', nm1l, nm1r, nm1g, nsL, nI_m1, Nat.add_sub_cancel, vpn, vpL, nclL, le32, leLL, leLN, leNL, leNN, inA, nb0, nb1, gi_wi_n, gi_wi_e, gi_rw_n, gi_rw_e, aWi_rw, ifl, ifl_, ifle, ifle_, ifq, ifq_, ifnq, ifnq_, ifnl, ifnl_, ifnle, ifnle_, z89 ok1, e1, e2, h1, sp_min, emn]
    apply fin
    unfold nxt
    rw [if_neg h1]
    rfl
def MK (a k : Nat) : Prop := a = 421 ∨ (a = 399 ∧ k = 38)
theorem StM.mv {a o b o' : Nat} (st : StM g lg a o s D) (t : ∀ k, k < 214 → gi h b (o' + k) = gi g a (o + k)) : StM h lg b o' s D := by
  obtain ⟨s1, s2, s3⟩ := st
  refine ⟨fun k hk => ?_, ?_, fun e h1 h2 w hw => ?_⟩
  · rw [t k (by omega), s1 k hk]
  · rw [t 33 (by omega), s2]
  · rw [t _ (by omega), s3 e h1 h2 w hw]
theorem m_keep (ok : OK h) (hc : c ≤ 40) (st : StM h lg 416 0 s D) (km : KM h lg c ks Dk) (eD : Dk c = D) {D' : Nat} (hq : ∀ h', Ag MK h h' → KM h' lg (min 40 (c + 1)) (kpK c ks s) (kpD c Dk D') → Q none h') : AW d 222 0 [some (.ref 399), none] [] h Q := by
  obtain ⟨k1, k2⟩ := km
  have back : ∀ h1 c1, OK h1 → c1 + 1 = min 40 (c + 1) → Ag MK h h1 → gi h1 399 38 = nI c1 → (∀ i, i < c1 → StM h1 lg 421 (214 * i) (ks (i + (c - c1))) (Dk (i + (c - c1)))) → ∀ z, AW d 222 52 [some (.ref 399), z] [] h1 Q := by
    intro h1 c1 ok1 hc1 a1 e1 r1 z
    simp (disch := omega) only [s222_0, s222_1, s222_4, s222_6, s222_9, s222_12, s222_14, s222_17, s222_20, s222_21, s222_24, s222_25, s222_28, s222_29, s222_30, s222_33, s222_34, s222_35, s222_36, s222_39, s222_42, s222_43, s222_43i, s222_44, s222_47, s222_48, s222_49, s222_52, s222_53, s222_55, s222_58, s222_61, s222_62, s222_65, s222_68, s222_69, s222_72, s222_73, s222_74, s222_75, s222_76, s222_79, s222_80, s222_81, s222_82, s222_85, s222_88, s222_89, s222_89i, s222_90, s222_93, s222_94, s222_95, s222_98, true_or, or_true, or_false, false_or, or_self, Int32.reduceLT, Int32.reduceLE, Nat.add_zero, Nat.zero_add, Nat.not_lt_zero, not_false_eq_true, not_true_eq_false, and_assoc, kl_q, kl_i, kl_r, kl_n, kl_0, kl_l, cs_0, cs_i, cs_r, cs_n, cs_l, aRf_s, aRf_n, gi_wl, gi_wr, gl_wi, gl_wl, gl_wr, gr_wi, gr_wl, gr_wr, sh_wi, sh_wl, sh_wr, gl_cp, gr_cp, sh_cp, gl_rw, gr_rw, sh_rw, gi_rl, gr_rl, sh_rl, Option.toList_some, Option.toList_none, List.nil_append, List.cons_append, List.append_nil, Option.some.injEq, Prod.mk.injEq, and_true, true_and, and_self, if_true, if_false, reduceCtorEq, Nat.reduceLeDiff, Nat.reduceLT, Nat.reduceAdd, Nat.reduceEqDiff, false_and, and_false, exists_const, exists_eq_left, exists_eq_left', exists_and_left, and_assoc, nltL, nltR, nleL, nleR, neqL, neqR, naL, naR, nmL, nmR, nI_ltI, nI_leI, nI_eq, nI_add, nI_mul, nI_clamp, n0l, n0r, nm1, nm1', nm1l, nm1r, nm1g, nsL, nI_m1, Nat.add_sub_cancel, vpn, vpL, nclL, le32, leLL, leLN, leNL, leNN, inA, nb0, nb1, gi_wi_n, gi_wi_e, gi_rw_n, gi_rw_e, aWi_rw, ifl, ifl_, ifle, ifle_, ifq, ifq_, ifnq, ifnq_, ifnl, ifnl_, ifnle, ifnle_]
    refine aLoop 214 (fun k lv h2 => lv = [some (.ref 399), some (.int (nI k))] ∧ Ag MK h1 h2 ∧ gi h2 399 38 = nI c1 ∧ (∀ q, ¬ (214 * c1 ≤ q ∧ q < 214 * c1 + k) → gi h2 421 q = gi h1 421 q) ∧ ∀ q, q < k → gi h2 421 (214 * c1 + q) = gi h 416 q) ?_ ?_ 0 _ _ (Nat.zero_le _) ⟨rfl, Ag.refl ok1, e1, fun q _ => rfl, fun q hq => by omega⟩
    · rintro k lv h2 hk ⟨rfl, a2, e2, p1, p2⟩ hk2
      have ok := a2.1
      have e3 : gi h2 416 k = gi h 416 k := by rw [a2.2 _ _ (by unfold MK; omega), a1.2 _ _ (by unfold MK; omega)]
      have i1 : 214 * c1 + k < 8560 := by omega
      have n1 : ¬ 214 ≤ k := by omega
      rw [s222_54]
      simp (disch := omega) only [s222_0, s222_1, s222_4, s222_6, s222_9, s222_12, s222_14, s222_17, s222_20, s222_21, s222_24, s222_25, s222_28, s222_29, s222_30, s222_33, s222_34, s222_35, s222_36, s222_39, s222_42, s222_43, s222_43i, s222_44, s222_47, s222_48, s222_49, s222_52, s222_53, s222_55, s222_58, s222_61, s222_62, s222_65, s222_68, s222_69, s222_72, s222_73, s222_74, s222_75, s222_76, s222_79, s222_80, s222_81, s222_82, s222_85, s222_88, s222_89, s222_89i, s222_90, s222_93, s222_94, s222_95, s222_98, true_or, or_true, or_false, false_or, or_self, Int32.reduceLT, Int32.reduceLE, Nat.add_zero, Nat.zero_add, Nat.not_lt_zero, not_false_eq_true, not_true_eq_false, and_assoc, kl_q, kl_i, kl_r, kl_n, kl_0, kl_l, cs_0, cs_i, cs_r, cs_n, cs_l, aRf_s, aRf_n, gi_wl, gi_wr, gl_wi, gl_wl, gl_wr, gr_wi, gr_wl, gr_wr, sh_wi, sh_wl, sh_wr, gl_cp, gr_cp, sh_cp, gl_rw, gr_rw, sh_rw, gi_rl, gr_rl, sh_rl, Option.toList_some, Option.toList_none, List.nil_append, List.cons_append, List.append_nil, Option.some.injEq, Prod.mk.injEq, and_true, true_and, and_self, if_true, if_false, reduceCtorEq, Nat.reduceLeDiff, Nat.reduceLT, Nat.reduceAdd, Nat.reduceEqDiff, false_and, and_false, exists_const, exists_eq_left, exists_eq_left', exists_and_left, and_assoc, nltL, nltR, nleL, nleR, neqL, neqR, naL, naR, nmL, nmR, nI_ltI, nI_leI, nI_eq, nI_add, nI_mul, nI_clamp, n0l, n0r, nm1, nm1', nm1l, nm1r, nm1g, nsL, nI_m1, Nat.add_sub_cancel, vpn, vpL, nclL, le32, leLL, leLN, leNL, leNN, inA, nb0, nb1, gi_wi_n, gi_wi_e, gi_rw_n, gi_rw_e, aWi_rw, ifl, ifl_, ifle, ifle_, ifq, ifq_, ifnq, ifnq_, ifnl, ifnl_, ifnle, ifnle_, z399 ok, z416 ok, z421 ok, r399_27 ok, r399_37 ok, e2, e3, i1, hk, n1]
      refine hk2 _ _ ⟨rfl, a2.wi (Or.inl rfl), ?_, fun q hq => ?_, fun q hq => ?_⟩
      · rw [gi_wi_n (by omega), e2]
      · rw [gi_wi_n (by omega), p1 q (by omega)]
      · by_cases hqk : q = k
        · subst hqk
          rw [gi_wi_e]
        · rw [gi_wi_n (by omega), p2 q (by omega)]
    · rintro lv h2 ⟨rfl, a2, e2, p1, p2⟩
      have ok := a2.1
      rw [s222_54]
      simp (disch := omega) only [s222_0, s222_1, s222_4, s222_6, s222_9, s222_12, s222_14, s222_17, s222_20, s222_21, s222_24, s222_25, s222_28, s222_29, s222_30, s222_33, s222_34, s222_35, s222_36, s222_39, s222_42, s222_43, s222_43i, s222_44, s222_47, s222_48, s222_49, s222_52, s222_53, s222_55, s222_58, s222_61, s222_62, s222_65, s222_68, s222_69, s222_72, s222_73, s222_74, s222_75, s222_76, s222_79, s222_80, s222_81, s222_82, s222_85, s222_88, s222_89, s222_89i, s222_90, s222_93, s222_94, s222_95, s222_98, true_or, or_true, or_false, false_or, or_self, Int32.reduceLT, Int32.reduceLE, Nat.add_zero, Nat.zero_add, Nat.not_lt_zero, not_false_eq_true, not_true_eq_false, and_assoc, kl_q, kl_i, kl_r, kl_n, kl_0, kl_l, cs_0, cs_i, cs_r, cs_n, cs_l, aRf_s, aRf_n, gi_wl, gi_wr, gl_wi, gl_wl, gl_wr, gr_wi, gr_wl, gr_wr, sh_wi, sh_wl, sh_wr, gl_cp, gr_cp, sh_cp, gl_rw, gr_rw, sh_rw, gi_rl, gr_rl, sh_rl, Option.toList_some, Option.toList_none, List.nil_append, List.cons_append, List.append_nil, Option.some.injEq, Prod.mk.injEq, and_true, true_and, and_self, if_true, if_false, reduceCtorEq, Nat.reduceLeDiff, Nat.reduceLT, Nat.reduceAdd, Nat.reduceEqDiff, false_and, and_false, exists_const, exists_eq_left, exists_eq_left', exists_and_left, and_assoc, nltL, nltR, nleL, nleR, neqL, neqR, naL, naR, nmL, nmR, nI_ltI, nI_leI, nI_eq, nI_add, nI_mul, nI_clamp, n0l, n0r, nm1, nm1', nm1l, nm1r, nm1g, nsL, nI_m1, Nat.add_sub_cancel, vpn, vpL, nclL, le32, leLL, leLN, leNL, leNN, inA, nb0, nb1, gi_wi_n, gi_wi_e, gi_rw_n, gi_rw_e, aWi_rw, ifl, ifl_, ifle, ifle_, ifq, ifq_, ifnq, ifnq_, ifnl, ifnl_, ifnle, ifnle_, z399 ok, e2, Nat.le_refl]
      refine hq _ ((a1.trans a2).wi (Or.inr ⟨rfl, rfl⟩)) ⟨?_, fun i hi => ?_⟩
      · rw [gi_wi_e, hc1]
      · have tr : ∀ k, gi (aWi h2 399 38 (nI (c1 + 1))) 421 k = gi h2 421 k := fun k => gi_wi_n (by omega)
        unfold kpK kpD
        rw [if_neg (show ¬ i = min 40 (c + 1) by omega)]
        by_cases h3 : i + 1 = min 40 (c + 1)
        · rw [if_pos h3, show i + (c + 1 - min 40 (c + 1)) = c by omega, eD]
          refine st.mv (fun k hk => ?_)
          rw [tr, show i = c1 by omega, p2 k hk, Nat.zero_add]
        · rw [if_neg h3, show i + (c + 1 - min 40 (c + 1)) = i + (c - c1) by omega]
          refine (r1 i (by omega)).eq (fun k hk => ?_)
          rw [tr, p1 _ (by omega)]
  by_cases h40 : c = 40
  · subst h40
    simp (disch := omega) only [s222_0, s222_1, s222_4, s222_6, s222_9, s222_12, true_or, or_true, or_false, false_or, or_self, Int32.reduceLT, Int32.reduceLE, Nat.add_zero, Nat.zero_add, Nat.not_lt_zero, not_false_eq_true, not_true_eq_false, and_assoc, kl_q, kl_i, kl_r, kl_n, kl_0, kl_l, cs_0, cs_i, cs_r, cs_n, cs_l, aRf_s, aRf_n, gi_wl, gi_wr, gl_wi, gl_wl, gl_wr, gr_wi, gr_wl, gr_wr, sh_wi, sh_wl, sh_wr, gl_cp, gr_cp, sh_cp, gl_rw, gr_rw, sh_rw, gi_rl, gr_rl, sh_rl, Option.toList_some, Option.toList_none, List.nil_append, List.cons_append, List.append_nil, Option.some.injEq, Prod.mk.injEq, and_true, true_and, and_self, if_true, if_false, reduceCtorEq, Nat.reduceLeDiff, Nat.reduceLT, Nat.reduceAdd, Nat.reduceEqDiff, false_and, and_false, exists_const, exists_eq_left, exists_eq_left', exists_and_left, and_assoc, nltL, nltR, nleL, nleR, neqL, neqR, naL, naR, nmL, nmR, nI_ltI, nI_leI, nI_eq, nI_add, nI_mul, nI_clamp, n0l, n0r, nm1, nm1', nm1l, nm1r, nm1g, nsL, nI_m1, Nat.add_sub_cancel, vpn, vpL, nclL, le32, leLL, leLN, leNL, leNN, inA, nb0, nb1, gi_wi_n, gi_wi_e, gi_rw_n, gi_rw_e, aWi_rw, ifl, ifl_, ifle, ifle_, ifq, ifq_, ifnq, ifnq_, ifnl, ifnl_, ifnle, ifnle_, z399 ok, k1]
    refine aLoop 8560 (fun k lv h2 => 214 ≤ k ∧ lv = [some (.ref 399), some (.int (nI k))] ∧ Ag MK h h2 ∧ gi h2 399 38 = nI 40 ∧ (∀ q, ¬ q + 214 < k → gi h2 421 q = gi h 421 q) ∧ ∀ q, q + 214 < k → gi h2 421 q = gi h 421 (q + 214)) ?_ ?_ 214 _ _ (by omega) ⟨Nat.le_refl _, rfl, Ag.refl ok, k1, fun q _ => rfl, fun q hq => by omega⟩
    · rintro k lv h2 hk ⟨kl, rfl, a2, e2, p1, p2⟩ hk2
      have ok := a2.1
      have n1 : ¬ 8560 ≤ k := by omega
      have e3 : gi h2 421 k = gi h 421 k := p1 k (by omega)
      have i1 : k - 214 < 8560 := by omega
      rw [s222_13]
      simp (disch := omega) only [s222_0, s222_1, s222_4, s222_6, s222_9, s222_12, s222_14, s222_17, s222_20, s222_21, s222_24, s222_25, s222_28, s222_29, s222_30, s222_33, s222_34, s222_35, s222_36, s222_39, s222_42, s222_43, s222_43i, s222_44, s222_47, s222_48, s222_49, s222_52, s222_53, s222_55, s222_58, s222_61, s222_62, s222_65, s222_68, s222_69, s222_72, s222_73, s222_74, s222_75, s222_76, s222_79, s222_80, s222_81, s222_82, s222_85, s222_88, s222_89, s222_89i, s222_90, s222_93, s222_94, s222_95, s222_98, true_or, or_true, or_false, false_or, or_self, Int32.reduceLT, Int32.reduceLE, Nat.add_zero, Nat.zero_add, Nat.not_lt_zero, not_false_eq_true, not_true_eq_false, and_assoc, kl_q, kl_i, kl_r, kl_n, kl_0, kl_l, cs_0, cs_i, cs_r, cs_n, cs_l, aRf_s, aRf_n, gi_wl, gi_wr, gl_wi, gl_wl, gl_wr, gr_wi, gr_wl, gr_wr, sh_wi, sh_wl, sh_wr, gl_cp, gr_cp, sh_cp, gl_rw, gr_rw, sh_rw, gi_rl, gr_rl, sh_rl, Option.toList_some, Option.toList_none, List.nil_append, List.cons_append, List.append_nil, Option.some.injEq, Prod.mk.injEq, and_true, true_and, and_self, if_true, if_false, reduceCtorEq, Nat.reduceLeDiff, Nat.reduceLT, Nat.reduceAdd, Nat.reduceEqDiff, false_and, and_false, exists_const, exists_eq_left, exists_eq_left', exists_and_left, and_assoc, nltL, nltR, nleL, nleR, neqL, neqR, naL, naR, nmL, nmR, nI_ltI, nI_leI, nI_eq, nI_add, nI_mul, nI_clamp, n0l, n0r, nm1, nm1', nm1l, nm1r, nm1g, nsL, nI_m1, Nat.add_sub_cancel, vpn, vpL, nclL, le32, leLL, leLN, leNL, leNN, inA, nb0, nb1, gi_wi_n, gi_wi_e, gi_rw_n, gi_rw_e, aWi_rw, ifl, ifl_, ifle, ifle_, ifq, ifq_, ifnq, ifnq_, ifnl, ifnl_, ifnle, ifnle_, z399 ok, z421 ok, r399_37 ok, n1, e3, i1, hk]
      refine hk2 _ _ ⟨by omega, rfl, a2.wi (Or.inl rfl), ?_, fun q hq => ?_, fun q hq => ?_⟩
      · rw [gi_wi_n (by omega), e2]
      · rw [gi_wi_n (by omega), p1 q (by omega)]
      · by_cases hqk : q = k - 214
        · have e5 : q + 214 = k := by omega
          rw [hqk, gi_wi_e, ← hqk, e5]
        · rw [gi_wi_n (by omega), p2 q (by omega)]
    · rintro lv h2 ⟨kl, rfl, a2, e2, p1, p2⟩
      have ok := a2.1
      rw [s222_13]
      simp (disch := omega) only [s222_14, s222_17, s222_20, s222_21, s222_24, s222_25, s222_28, s222_29, s222_30, s222_33, s222_34, s222_35, s222_36, s222_39, s222_42, s222_43, s222_43i, s222_44, s222_47, s222_48, s222_49, true_or, or_true, or_false, false_or, or_self, Int32.reduceLT, Int32.reduceLE, Nat.add_zero, Nat.zero_add, Nat.not_lt_zero, not_false_eq_true, not_true_eq_false, and_assoc, kl_q, kl_i, kl_r, kl_n, kl_0, kl_l, cs_0, cs_i, cs_r, cs_n, cs_l, aRf_s, aRf_n, gi_wl, gi_wr, gl_wi, gl_wl, gl_wr, gr_wi, gr_wl, gr_wr, sh_wi, sh_wl, sh_wr, gl_cp, gr_cp, sh_cp, gl_rw, gr_rw, sh_rw, gi_rl, gr_rl, sh_rl, Option.toList_some, Option.toList_none, List.nil_append, List.cons_append, List.append_nil, Option.some.injEq, Prod.mk.injEq, and_true, true_and, and_self, if_true, if_false, reduceCtorEq, Nat.reduceLeDiff, Nat.reduceLT, Nat.reduceAdd, Nat.reduceEqDiff, false_and, and_false, exists_const, exists_eq_left, exists_eq_left', exists_and_left, and_assoc, nltL, nltR, nleL, nleR, neqL, neqR, naL, naR, nmL, nmR, nI_ltI, nI_leI, nI_eq, nI_add, nI_mul, nI_clamp, n0l, n0r, nm1, nm1', nm1l, nm1r, nm1g, nsL, nI_m1, Nat.add_sub_cancel, vpn, vpL, nclL, le32, leLL, leLN, leNL, leNN, inA, nb0, nb1, gi_wi_n, gi_wi_e, gi_rw_n, gi_rw_e, aWi_rw, ifl, ifl_, ifle, ifle_, ifq, ifq_, ifnq, ifnq_, ifnl, ifnl_, ifnle, ifnle_, z399 ok, e2, Nat.le_refl]
      refine back _ 39 (show OK (aWi h2 399 38 _) from a2.1) (by omega) (a2.wi (Or.inr ⟨rfl, rfl⟩)) gi_wi_e (fun i hi => ?_) _
      refine (k2 (i + 1) (by omega)).mv (fun k hk => ?_)
      rw [gi_wi_n (by omega), p2 _ (by omega)]
      congr 1
      omega
  · simp (disch := omega) only [s222_0, s222_1, s222_4, s222_6, s222_9, s222_12, true_or, or_true, or_false, false_or, or_self, Int32.reduceLT, Int32.reduceLE, Nat.add_zero, Nat.zero_add, Nat.not_lt_zero, not_false_eq_true, not_true_eq_false, and_assoc, kl_q, kl_i, kl_r, kl_n, kl_0, kl_l, cs_0, cs_i, cs_r, cs_n, cs_l, aRf_s, aRf_n, gi_wl, gi_wr, gl_wi, gl_wl, gl_wr, gr_wi, gr_wl, gr_wr, sh_wi, sh_wl, sh_wr, gl_cp, gr_cp, sh_cp, gl_rw, gr_rw, sh_rw, gi_rl, gr_rl, sh_rl, Option.toList_some, Option.toList_none, List.nil_append, List.cons_append, List.append_nil, Option.some.injEq, Prod.mk.injEq, and_true, true_and, and_self, if_true, if_false, reduceCtorEq, Nat.reduceLeDiff, Nat.reduceLT, Nat.reduceAdd, Nat.reduceEqDiff, false_and, and_false, exists_const, exists_eq_left, exists_eq_left', exists_and_left, and_assoc, nltL, nltR, nleL, nleR, neqL, neqR, naL, naR, nmL, nmR, nI_ltI, nI_leI, nI_eq, nI_add, nI_mul, nI_clamp, n0l, n0r, nm1, nm1', nm1l, nm1r, nm1g, nsL, nI_m1, Nat.add_sub_cancel, vpn, vpL, nclL, le32, leLL, leLN, leNL, leNN, inA, nb0, nb1, gi_wi_n, gi_wi_e, gi_rw_n, gi_rw_e, aWi_rw, ifl, ifl_, ifle, ifle_, ifq, ifq_, ifnq, ifnq_, ifnl, ifnl_, ifnle, ifnle_, z399 ok, k1, h40]
    refine back _ c ok (by omega) (Ag.refl ok) k1 (fun i hi => ?_) _
    rw [Nat.sub_self, Nat.add_zero]
    exact k2 i hi
end K1
