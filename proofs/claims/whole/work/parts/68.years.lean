-- deps: 67.sz
/-! ===== years ===== -/
def nx64 (x : Int64) : Int64 := x * 6364136223846793005 + 1442695040888963407
def sx64 (x : Int64) : Int64 := (x.toUInt64 >>> ((33 : Int32).toInt64.toUInt64 &&& Int64.toUInt64 63)).toInt64
def dr (x : Int64) (m : Int32) : Int32 := (sx64 x - sx64 x / m.toInt64 * m.toInt64).toInt32
def lI (n : Nat) : Int64 := Int64.ofNat n
theorem lI_toInt {n : Nat} (h : n < 2 ^ 63) : (lI n).toInt = n := Int64.toInt_ofNat_of_lt h
theorem lI_div {a b : Nat} (ha : a < 2 ^ 62) (hb : b < 2 ^ 62) : lI a / lI b = lI (a / b) := by
  have hq : a / b < 2 ^ 62 := Nat.lt_of_le_of_lt (Nat.div_le_self a b) ha
  apply Int64.toInt_inj.mp
  rw [Int64.toInt_div, lI_toInt (by omega), lI_toInt (by omega), lI_toInt (by omega)]
  have : (a : Int).tdiv (b : Int) = ((a / b : Nat) : Int) := (Int.ofNat_tdiv a b).symm
  rw [this]
  generalize a / b = q at *
  apply Int.bmod_eq_of_le_mul_two <;> omega
theorem lI_n {m : Nat} (h : m < 2 ^ 31) : (nI m).toInt64 = lI m := by
  apply Int64.toInt_inj.mp
  rw [Int32.toInt_toInt64, nI_toInt h, lI_toInt (by omega)]
theorem lI_32 {m : Nat} (h : m < 2 ^ 31) : (lI m).toInt32 = nI m := by
  apply Int32.toInt_inj.mp
  rw [Int64.toInt_toInt32, lI_toInt (by omega), nI_toInt h]
  apply Int.bmod_eq_of_le_mul_two <;> omega
theorem sx_n (x : Int64) : ∃ j, j < 2 ^ 31 ∧ sx64 x = lI j := by
  have e : (sx64 x).toBitVec = x.toBitVec >>> 33 := rfl
  have h1 : (x.toBitVec >>> 33).toNat < 2 ^ 31 := by
    rw [BitVec.toNat_ushiftRight, Nat.shiftRight_eq_div_pow]
    have := x.toBitVec.isLt
    omega
  refine ⟨_, h1, ?_⟩
  apply Int64.toBitVec_inj.mp
  rw [e]
  apply BitVec.eq_of_toNat_eq
  show _ = (BitVec.ofNat 64 _).toNat
  rw [BitVec.toNat_ofNat]
  omega
theorem dr_b (x : Int64) {m : Nat} (h1 : 1 ≤ m) (h2 : m ≤ 100) : ∃ k, k < m ∧ dr x (nI m) = nI k := by
  obtain ⟨j, hj, ej⟩ := sx_n x
  refine ⟨j % m, Nat.mod_lt _ h1, ?_⟩
  have hq := Nat.div_mul_le_self j m
  have hr := Nat.div_add_mod j m
  rw [Nat.mul_comm] at hr
  have hm : j % m < m := Nat.mod_lt _ h1
  unfold dr
  rw [ej, lI_n (by omega), lI_div (by omega) (by omega), show lI (j / m) * lI m = lI (j / m * m) from (Int64.ofNat_mul _ _).symm, show lI j - lI (j / m * m) = lI (j - j / m * m) from (Int64.ofNat_sub _ _ hq).symm, show j - j / m * m = j % m by omega, lI_32 (by omega)]
theorem m0_64 {m : Nat} (h1 : 1 ≤ m) (h2 : m ≤ 100) : ¬ (nI m).toInt64 = 0 := by
  rw [lI_n (by omega)]
  intro q
  have := congrArg Int64.toInt q
  rw [lI_toInt (by omega)] at this
  have e : (0 : Int64).toInt = 0 := rfl
  rw [e] at this
  omega
/-- what befalls ahead of a day, by draws -/
def chS (M L : Nat) (sto : Int32) (s : Nat → Int32) (x : Int64) : (Nat → Int32) × Int64 :=
  if dr (nx64 (nx64 (nx64 x))) 10 < sto then (up (up s (cN (dr (nx64 x) (nI M))) (dr (nx64 (nx64 x)) (nI (L + 1)))) 30 (dr (nx64 (nx64 (nx64 (nx64 x)))) 10), nx64 (nx64 (nx64 (nx64 x))))
  else (up s (cN (dr (nx64 x) (nI M))) (dr (nx64 (nx64 x)) (nI (L + 1))), nx64 (nx64 (nx64 x)))
section Y1
variable {d : Nat} {g h h1 : aM} {Q : Option Value → aM → Prop} {M F L W N D c nx n T P : Nat} {s s' : Nat → Int32} {lg ks : Nat → Nat → Int32} {Dk : Nat → Nat} {q : Ab} {x : Int64} {sto : Int32}
theorem ch_sb (sb : SB M s D) (hM : M ≤ 6) (h0 : 0 < M) (hL : L ≤ 30) : SB M (chS M L sto s x).1 D := by
  obtain ⟨m, hm, em⟩ := dr_b (nx64 x) (m := M) (by omega) (by omega)
  obtain ⟨p, hp, ep⟩ := dr_b (nx64 (nx64 x)) (m := L + 1) (by omega) (by omega)
  obtain ⟨u, hu, eu⟩ := dr_b (nx64 (nx64 (nx64 (nx64 x)))) (m := 10) (by omega) (by omega)
  have eu' : dr (nx64 (nx64 (nx64 (nx64 x)))) 10 = nI u := eu
  unfold chS
  rw [em, ep, eu', cN_n (by omega)]
  split
  · exact (sb.u1 hM hm (sm_nI (by omega))).u5 hM (by omega) (by omega) (by omega) (fun _ => sm_nI (by omega))
  · exact sb.u1 hM hm (sm_nI (by omega))
theorem c_next : AW d 124 0 [some (.long x), none] [] h Q ↔ Q (some (.long (nx64 x))) h := by
  simp only [s124_0, s124_1, s124_4, s124_5, s124_8, s124_9, true_or, or_true, or_false, false_or, or_self, Int32.reduceLT, Int32.reduceLE, Nat.add_zero, Nat.zero_add, Nat.not_lt_zero, not_false_eq_true, not_true_eq_false, and_assoc, kl_q, kl_i, kl_r, kl_n, kl_0, kl_l, cs_0, cs_i, cs_r, cs_n, cs_l, aRf_s, aRf_n, gi_wl, gi_wr, gl_wi, gl_wl, gl_wr, gr_wi, gr_wl, gr_wr, sh_wi, sh_wl, sh_wr, gl_cp, gr_cp, sh_cp, gl_rw, gr_rw, sh_rw, gi_rl, gr_rl, sh_rl, Option.toList_some, Option.toList_none, List.nil_append, List.cons_append, List.append_nil, Option.some.injEq, Prod.mk.injEq, and_true, true_and, and_self, if_true, if_false, reduceCtorEq, Nat.reduceLeDiff, Nat.reduceLT, Nat.reduceAdd, Nat.reduceEqDiff, false_and, and_false, exists_const, exists_eq_left, exists_eq_left', exists_and_left, and_assoc]
  rfl
theorem c_drawn {m : Nat} (h1 : 1 ≤ m) (h2 : m ≤ 100) : AW d 125 0 [some (.long x), none, some (.int (nI m))] [] h Q ↔ Q (some (.int (dr x (nI m)))) h := by
  have e1 : 1 ≤ m := h1
  simp (disch := omega) only [s125_0, s125_1, s125_2, s125_5, s125_6, s125_9, s125_10, s125_12, s125_13, s125_14, s125_15, s125_16, s125_17, true_or, or_true, or_false, false_or, or_self, Int32.reduceLT, Int32.reduceLE, Nat.add_zero, Nat.zero_add, Nat.not_lt_zero, not_false_eq_true, not_true_eq_false, and_assoc, kl_q, kl_i, kl_r, kl_n, kl_0, kl_l, cs_0, cs_i, cs_r, cs_n, cs_l, aRf_s, aRf_n, gi_wl, gi_wr, gl_wi, gl_wl, gl_wr, gr_wi, gr_wl, gr_wr, sh_wi, sh_wl, sh_wr, gl_cp, gr_cp, sh_cp, gl_rw, gr_rw, sh_rw, gi_rl, gr_rl, sh_rl, Option.toList_some, Option.toList_none, List.nil_append, List.cons_append, List.append_nil, Option.some.injEq, Prod.mk.injEq, and_true, true_and, and_self, if_true, if_false, reduceCtorEq, Nat.reduceLeDiff, Nat.reduceLT, Nat.reduceAdd, Nat.reduceEqDiff, false_and, and_false, exists_const, exists_eq_left, exists_eq_left', exists_and_left, and_assoc, nltL, nltR, nleL, nleR, neqL, neqR, naL, naR, nmL, nmR, nI_ltI, nI_leI, nI_eq, nI_add, nI_mul, nI_clamp, n0l, n0r, nm1, nm1', nm1l, nm1r, nm1g, nsL, nI_m1, Nat.add_sub_cancel, vpn, vpL, nclL, le32, leLL, leLN, leNL, leNN, inA, nb0, nb1, gi_wi_n, gi_wi_e, gi_rw_n, gi_rw_e, aWi_rw, ifl, ifl_, ifle, ifle_, ifq, ifq_, ifnq, ifnq_, ifnl, ifnl_, ifnle, ifnle_, m0_64 h1 h2]
  rfl
theorem c_drawn10 : AW d 125 0 [some (.long x), none, some (.int 10)] [] h Q ↔ Q (some (.int (dr x 10))) h := c_drawn (m := 10) (by omega) (by omega)
theorem c_chance (ok : OK h) (it : ITold h M F L W) (st : StC h M F 79 s) (h0 : 0 < M) (e18 : gi h 32 18 = sto) (hq : ∀ h', Ag (fun a _ => 79 ≤ a ∧ a ≤ 80) h h' → StC h' M F 79 (chS M L sto s x).1 → Q (some (.long (chS M L sto s x).2)) h') : AW (d + 2) 123 0 [some (.ref 32), some (.long x), none, none, none, none] [] h Q := by
  have hM : M ≤ 6 := it.1
  have hM' : M ≤ 10 := by omega
  have hF : F ≤ 5 := it.2.1
  have hF' : F ≤ 10 := by omega
  have hL : L ≤ 30 := it.2.2.1
  have hW : W ≤ 20 := it.2.2.2.1
  obtain ⟨r1, r2, r3, r4, r5, r6, r7, r8⟩ := rd58' it
  obtain ⟨m, hm, em⟩ := dr_b (nx64 x) (m := M) (by omega) (by omega)
  have m6 : m < 6 := by omega
  unfold chS at hq
  rw [em, cN_n (by omega)] at hq
  simp (disch := omega) only [s123_0, s123_1, s123_4, s123_5, s123_6, s123_7, s123_10, s123_13, s123_16, s123_18, s123_19, s123_22, s123_23, s123_24, s123_27, s123_30, s123_32, s123_33, s123_34, s123_37, s123_38, s123_39, s123_42, s123_43, s123_44, s123_47, s123_48, s123_49, s123_51, s123_54, s123_55, s123_58, s123_61, s123_62, s123_65, s123_66, s123_67, s123_70, s123_71, s123_73, s123_76, s123_79, s123_80, true_or, or_true, or_false, false_or, or_self, Int32.reduceLT, Int32.reduceLE, Nat.add_zero, Nat.zero_add, Nat.not_lt_zero, not_false_eq_true, not_true_eq_false, and_assoc, kl_q, kl_i, kl_r, kl_n, kl_0, kl_l, cs_0, cs_i, cs_r, cs_n, cs_l, aRf_s, aRf_n, gi_wl, gi_wr, gl_wi, gl_wl, gl_wr, gr_wi, gr_wl, gr_wr, sh_wi, sh_wl, sh_wr, gl_cp, gr_cp, sh_cp, gl_rw, gr_rw, sh_rw, gi_rl, gr_rl, sh_rl, Option.toList_some, Option.toList_none, List.nil_append, List.cons_append, List.append_nil, Option.some.injEq, Prod.mk.injEq, and_true, true_and, and_self, if_true, if_false, reduceCtorEq, Nat.reduceLeDiff, Nat.reduceLT, Nat.reduceAdd, Nat.reduceEqDiff, false_and, and_false, exists_const, exists_eq_left, exists_eq_left', exists_and_left, and_assoc, nltL, nltR, nleL, nleR, neqL, neqR, naL, naR, nmL, nmR, nI_ltI, nI_leI, nI_eq, nI_add, nI_mul, nI_clamp, n0l, n0r, nm1, nm1', nm1l, nm1r, nm1g, nsL, nI_m1, Nat.add_sub_cancel, vpn, vpL, nclL, le32, leLL, leLN, leNL, leNN, inA, nb0, nb1, gi_wi_n, gi_wi_e, gi_rw_n, gi_rw_e, aWi_rw, ifl, ifl_, ifle, ifle_, ifq, ifq_, ifnq, ifnq_, ifnl, ifnl_, ifnle, ifnle_, z32 ok, z58 ok, z79 ok, z80 ok, r32_3 ok, r32_5 ok, r79_0 ok, r1, r5, c_next, c_drawn (show 1 ≤ M by omega) (show M ≤ 100 by omega), c_drawn (show 1 ≤ L + 1 by omega) (show L + 1 ≤ 100 by omega), c_drawn10, c_len ok r5, em, m6, e18]
  by_cases hs : dr (nx64 (nx64 (nx64 x))) 10 < sto
  · rw [if_neg (Int32.not_le.mpr hs)]
    rw [if_pos hs] at hq
    refine hq _ (((Ag.refl ok).wi (by omega)).wi (by omega)) ?_
    exact (st.w1 hM hm).w0 (j := 6) hM hF (by omega) (by omega)
  · rw [if_pos (Int32.not_lt.mp hs)]
    rw [if_neg hs] at hq
    exact hq _ ((Ag.refl ok).wi (by omega)) (st.w1 hM hm)
theorem m_draw {m : Nat} (ok : OK h) (h1 : 1 ≤ m) (h2 : m ≤ 100) (ex : gl h 399 39 = x) : AW d 234 0 [some (.ref 399), some (.int (nI m))] [] h Q ↔ Q (some (.int (dr (nx64 x) (nI m)))) (aWl h 399 39 (nx64 x)) := by
  simp (disch := omega) only [s234_0, s234_1, s234_2, s234_5, s234_8, s234_9, s234_12, s234_13, s234_16, s234_17, s234_20, s234_22, s234_23, s234_24, s234_25, s234_26, s234_27, true_or, or_true, or_false, false_or, or_self, Int32.reduceLT, Int32.reduceLE, Nat.add_zero, Nat.zero_add, Nat.not_lt_zero, not_false_eq_true, not_true_eq_false, and_assoc, kl_q, kl_i, kl_r, kl_n, kl_0, kl_l, cs_0, cs_i, cs_r, cs_n, cs_l, aRf_s, aRf_n, gi_wl, gi_wr, gl_wi, gl_wl, gl_wr, gr_wi, gr_wl, gr_wr, sh_wi, sh_wl, sh_wr, gl_cp, gr_cp, sh_cp, gl_rw, gr_rw, sh_rw, gi_rl, gr_rl, sh_rl, Option.toList_some, Option.toList_none, List.nil_append, List.cons_append, List.append_nil, Option.some.injEq, Prod.mk.injEq, and_true, true_and, and_self, if_true, if_false, reduceCtorEq, Nat.reduceLeDiff, Nat.reduceLT, Nat.reduceAdd, Nat.reduceEqDiff, false_and, and_false, exists_const, exists_eq_left, exists_eq_left', exists_and_left, and_assoc, nltL, nltR, nleL, nleR, neqL, neqR, naL, naR, nmL, nmR, nI_ltI, nI_leI, nI_eq, nI_add, nI_mul, nI_clamp, n0l, n0r, nm1, nm1', nm1l, nm1r, nm1g, nsL, nI_m1, Nat.add_sub_cancel, vpn, vpL, nclL, le32, leLL, leLN, leNL, leNN, inA, nb0, nb1, gi_wi_n, gi_wi_e, gi_rw_n, gi_rw_e, aWi_rw, ifl, ifl_, ifle, ifle_, ifq, ifq_, ifnq, ifnq_, ifnl, ifnl_, ifnle, ifnle_, z399 ok, ex, gl_wl, m0_64 h1 h2]
  rfl
theorem m_draw10 (ok : OK h) (ex : gl h 399 39 = x) : AW d 234 0 [some (.ref 399), some (.int 10)] [] h Q ↔ Q (some (.int (dr (nx64 x) 10))) (aWl h 399 39 (nx64 x)) := m_draw (m := 10) ok (by omega) (by omega) ex
/-- the abstract course of years -/
def qY (g : aM) (M F L W : Nat) (sto : Int32) (q0 : Ab) (x0 : Int64) : Nat → Ab × Int64
  | 0 => (q0, x0)
  | k + 1 => (dyQ g M F L W (qY g M F L W sto q0 x0 k).1 (chS M L sto (qY g M F L W sto q0 x0 k).1.1 (qY g M F L W sto q0 x0 k).2).1, (chS M L sto (qY g M F L W sto q0 x0 k).1.1 (qY g M F L W sto q0 x0 k).2).2)
theorem qY_d {q0 : Ab} {x0 : Int64} : ∀ k, (qY g M F L W sto q0 x0 k).1.2.1 = q0.2.1 + k
  | 0 => rfl
  | k + 1 => by
    show (qY g M F L W sto q0 x0 k).1.2.1 + 1 = _
    rw [qY_d k]
    rfl
theorem qY_ab {q0 : Ab} {x0 : Int64} (ab : AB M q0) (hM : M ≤ 6) (h0 : 0 < M) (hL : L ≤ 30) (hW : W ≤ 20) : ∀ k, q0.2.1 + k ≤ 999 → AB M (qY g M F L W sto q0 x0 k).1
  | 0, _ => ab
  | k + 1, hk => by
    have h1 := qY_ab (x0 := x0) ab hM h0 hL hW k (by omega)
    exact ab_day h1 (ch_sb h1.1 hM h0 hL) hM hW (by rw [qY_d]; omega)
theorem a_years (b : Int32) (x0 : Int64) : Act 115 235 [some (.ref 32), some (.int b), some (.long x0), none, none, none, none] [some (.ref 399), some (.int b), some (.long x0), none, none, none] := by
  rintro g d ⟨M, F, L, W, N, D, c, nx, n', T, s, lg, ks, Dk, i⟩
  obtain ⟨i1, i2, i3, i4, ⟨i5, i6, i7⟩, ⟨i8, i9⟩, i10, i11, i12, i13, i14, i15, i16⟩ := id i
  have it := i2
  have hM : M ≤ 6 := it.1
  have hM' : M ≤ 10 := by omega
  have hF : F ≤ 5 := it.2.1
  have hF' : F ≤ 10 := by omega
  have hL : L ≤ 30 := it.2.2.1
  have hW : W ≤ 20 := it.2.2.2.1
  have hc40 := i11.1
  have hnx := i11.2.1
  obtain ⟨r1, r2, r3, r4, r5, r6, r7, r8⟩ := rd58' it
  obtain ⟨w1, w2, w3, w4, w5, w6⟩ := rdS i5
  have ok := i1
  have inv : Inv g := ⟨M, F, L, W, N, D, c, nx, n', T, s, lg, ks, Dk, i⟩
  have eD := i10.2.2.2.1
  have hD := i10.2.2.2.2
  have x32 := rdM i8 (k := 32) (by omega)
  rw [eD] at w6 x32
  have e18 := i16.2
  by_cases h0 : M = 0
  · simp (disch := omega) only [s115_0, s115_1, s115_4, s115_7, s115_8, s115_9, s115_12, s115_13, s115_15, s115_18, s115_19, s115_22, s115_25, s115_26, s115_27, s115_30, s115_33, s115_34, s115_35, s115_36, s115_38, s115_39, s115_43, s115_44, s115_47, s115_48, s115_51, s115_52, s115_55, s115_58, s115_59, s115_61, s115_64, s115_66, s115_67, s115_70, s115_71, s115_74, s115_77, s115_80, s115_81, s115_84, s115_87, true_or, or_true, or_false, false_or, or_self, Int32.reduceLT, Int32.reduceLE, Nat.add_zero, Nat.zero_add, Nat.not_lt_zero, not_false_eq_true, not_true_eq_false, and_assoc, kl_q, kl_i, kl_r, kl_n, kl_0, kl_l, cs_0, cs_i, cs_r, cs_n, cs_l, aRf_s, aRf_n, gi_wl, gi_wr, gl_wi, gl_wl, gl_wr, gr_wi, gr_wl, gr_wr, sh_wi, sh_wl, sh_wr, gl_cp, gr_cp, sh_cp, gl_rw, gr_rw, sh_rw, gi_rl, gr_rl, sh_rl, Option.toList_some, Option.toList_none, List.nil_append, List.cons_append, List.append_nil, Option.some.injEq, Prod.mk.injEq, and_true, true_and, and_self, if_true, if_false, reduceCtorEq, Nat.reduceLeDiff, Nat.reduceLT, Nat.reduceAdd, Nat.reduceEqDiff, false_and, and_false, exists_const, exists_eq_left, exists_eq_left', exists_and_left, and_assoc, nltL, nltR, nleL, nleR, neqL, neqR, naL, naR, nmL, nmR, nI_ltI, nI_leI, nI_eq, nI_add, nI_mul, nI_clamp, n0l, n0r, nm1, nm1', nm1l, nm1r, nm1g, nsL, nI_m1, Nat.add_sub_cancel, vpn, vpL, nclL, le32, leLL, leLN, leNL, leNN, inA, nb0, nb1, gi_wi_n, gi_wi_e, gi_rw_n, gi_rw_e, aWi_rw, ifl, ifl_, ifle, ifle_, ifq, ifq_, ifnq, ifnq_, ifnl, ifnl_, ifnle, ifnle_, z32 ok, c_noRide ok hM' r1, h0, decide_true, bI_0]
    refine ⟨-1, rfl, ?_⟩
    simp (disch := omega) only [s235_0, s235_1, s235_4, s235_7, s235_8, s235_9, s235_12, s235_15, s235_16, s235_17, s235_18, s235_19, s235_22, s235_23, s235_27, s235_28, s235_31, s235_32, s235_35, s235_36, s235_37, s235_40, s235_43, s235_45, s235_46, s235_49, s235_50, s235_52, s235_53, s235_54, s235_55, s235_58, s235_59, s235_60, s235_61, s235_62, s235_65, s235_66, s235_67, s235_69, s235_72, s235_73, s235_76, s235_79, s235_80, s235_83, s235_85, s235_86, s235_88, s235_91, s235_92, s235_93, s235_96, s235_99, s235_102, s235_103, s235_106, s235_108, s235_109, true_or, or_true, or_false, false_or, or_self, Int32.reduceLT, Int32.reduceLE, Nat.add_zero, Nat.zero_add, Nat.not_lt_zero, not_false_eq_true, not_true_eq_false, and_assoc, kl_q, kl_i, kl_r, kl_n, kl_0, kl_l, cs_0, cs_i, cs_r, cs_n, cs_l, aRf_s, aRf_n, gi_wl, gi_wr, gl_wi, gl_wl, gl_wr, gr_wi, gr_wl, gr_wr, sh_wi, sh_wl, sh_wr, gl_cp, gr_cp, sh_cp, gl_rw, gr_rw, sh_rw, gi_rl, gr_rl, sh_rl, Option.toList_some, Option.toList_none, List.nil_append, List.cons_append, List.append_nil, Option.some.injEq, Prod.mk.injEq, and_true, true_and, and_self, if_true, if_false, reduceCtorEq, Nat.reduceLeDiff, Nat.reduceLT, Nat.reduceAdd, Nat.reduceEqDiff, false_and, and_false, exists_const, exists_eq_left, exists_eq_left', exists_and_left, and_assoc, nltL, nltR, nleL, nleR, neqL, neqR, naL, naR, nmL, nmR, nI_ltI, nI_leI, nI_eq, nI_add, nI_mul, nI_clamp, n0l, n0r, nm1, nm1', nm1l, nm1r, nm1g, nsL, nI_m1, Nat.add_sub_cancel, vpn, vpL, nclL, le32, leLL, leLN, leNL, leNN, inA, nb0, nb1, gi_wi_n, gi_wi_e, gi_rw_n, gi_rw_e, aWi_rw, ifl, ifl_, ifle, ifle_, ifq, ifq_, ifnq, ifnq_, ifnl, ifnl_, ifnle, ifnle_, z399 ok, r2, h0]
    exact inv
  have h0d : decide (M = 0) = false := by simp [h0]
  have h0' : 0 < M := by omega
  rcases inR4 (n := 60) (lit := 60) (by omega) rfl b with ⟨hi, hb⟩ | ⟨hi, rfl⟩ | ⟨hi, j, hj, hj2, rfl⟩ | ⟨hi, n, hn1, hn, rfl⟩
  · have hb1 : b < 1 := by
      have e1 : (1 : Int32).toInt = 1 := rfl
      have e0 : (0 : Int32).toInt = 0 := rfl
      rw [lti, e1]
      rw [lti, e0] at hb
      omega
    simp (disch := omega) only [s115_0, s115_1, s115_4, s115_7, s115_8, s115_9, s115_12, s115_13, s115_15, s115_18, s115_19, s115_22, s115_25, s115_26, s115_27, s115_30, s115_33, s115_34, s115_35, s115_36, s115_38, s115_39, s115_43, s115_44, s115_47, s115_48, s115_51, s115_52, s115_55, s115_58, s115_59, s115_61, s115_64, s115_66, s115_67, s115_70, s115_71, s115_74, s115_77, s115_80, s115_81, s115_84, s115_87, true_or, or_true, or_false, false_or, or_self, Int32.reduceLT, Int32.reduceLE, Nat.add_zero, Nat.zero_add, Nat.not_lt_zero, not_false_eq_true, not_true_eq_false, and_assoc, kl_q, kl_i, kl_r, kl_n, kl_0, kl_l, cs_0, cs_i, cs_r, cs_n, cs_l, aRf_s, aRf_n, gi_wl, gi_wr, gl_wi, gl_wl, gl_wr, gr_wi, gr_wl, gr_wr, sh_wi, sh_wl, sh_wr, gl_cp, gr_cp, sh_cp, gl_rw, gr_rw, sh_rw, gi_rl, gr_rl, sh_rl, Option.toList_some, Option.toList_none, List.nil_append, List.cons_append, List.append_nil, Option.some.injEq, Prod.mk.injEq, and_true, true_and, and_self, if_true, if_false, reduceCtorEq, Nat.reduceLeDiff, Nat.reduceLT, Nat.reduceAdd, Nat.reduceEqDiff, false_and, and_false, exists_const, exists_eq_left, exists_eq_left', exists_and_left, and_assoc, nltL, nltR, nleL, nleR, neqL, neqR, naL, naR, nmL, nmR, nI_ltI, nI_leI, nI_eq, nI_add, nI_mul, nI_clamp, n0l, n0r, nm1, nm1', nm1l, nm1r, nm1g, nsL, nI_m1, Nat.add_sub_cancel, vpn, vpL, nclL, le32, leLL, leLN, leNL, leNN, inA, nb0, nb1, gi_wi_n, gi_wi_e, gi_rw_n, gi_rw_e, aWi_rw, ifl, ifl_, ifle, ifle_, ifq, ifq_, ifnq, ifnq_, ifnl, ifnl_, ifnle, ifnle_, z32 ok, c_noRide ok hM' r1, h0d, hb1, bI_0]
    refine ⟨-1, rfl, ?_⟩
    simp (disch := omega) only [s235_0, s235_1, s235_4, s235_7, s235_8, s235_9, s235_12, s235_15, s235_16, s235_17, s235_18, s235_19, s235_22, s235_23, s235_27, s235_28, s235_31, s235_32, s235_35, s235_36, s235_37, s235_40, s235_43, s235_45, s235_46, s235_49, s235_50, s235_52, s235_53, s235_54, s235_55, s235_58, s235_59, s235_60, s235_61, s235_62, s235_65, s235_66, s235_67, s235_69, s235_72, s235_73, s235_76, s235_79, s235_80, s235_83, s235_85, s235_86, s235_88, s235_91, s235_92, s235_93, s235_96, s235_99, s235_102, s235_103, s235_106, s235_108, s235_109, s231_0, s231_1, s231_2, s231_4, s231_7, s231_10, s231_11, s231_14, s231_16, s231_17, s231_18, s231_19, s231_22, s231_25, s231_26, s231_29, s231_30, true_or, or_true, or_false, false_or, or_self, Int32.reduceLT, Int32.reduceLE, Nat.add_zero, Nat.zero_add, Nat.not_lt_zero, not_false_eq_true, not_true_eq_false, and_assoc, kl_q, kl_i, kl_r, kl_n, kl_0, kl_l, cs_0, cs_i, cs_r, cs_n, cs_l, aRf_s, aRf_n, gi_wl, gi_wr, gl_wi, gl_wl, gl_wr, gr_wi, gr_wl, gr_wr, sh_wi, sh_wl, sh_wr, gl_cp, gr_cp, sh_cp, gl_rw, gr_rw, sh_rw, gi_rl, gr_rl, sh_rl, Option.toList_some, Option.toList_none, List.nil_append, List.cons_append, List.append_nil, Option.some.injEq, Prod.mk.injEq, and_true, true_and, and_self, if_true, if_false, reduceCtorEq, Nat.reduceLeDiff, Nat.reduceLT, Nat.reduceAdd, Nat.reduceEqDiff, false_and, and_false, exists_const, exists_eq_left, exists_eq_left', exists_and_left, and_assoc, nltL, nltR, nleL, nleR, neqL, neqR, naL, naR, nmL, nmR, nI_ltI, nI_leI, nI_eq, nI_add, nI_mul, nI_clamp, n0l, n0r, nm1, nm1', nm1l, nm1r, nm1g, nsL, nI_m1, Nat.add_sub_cancel, vpn, vpL, nclL, le32, leLL, leLN, leNL, leNN, inA, nb0, nb1, gi_wi_n, gi_wi_e, gi_rw_n, gi_rw_e, aWi_rw, ifl, ifl_, ifle, ifle_, ifq, ifq_, ifnq, ifnq_, ifnl, ifnl_, ifnle, ifnle_, z399 ok, r2, h0, m_in, hi, bI_0]
    exact inv
  · simp (disch := omega) only [s115_0, s115_1, s115_4, s115_7, s115_8, s115_9, s115_12, s115_13, s115_15, s115_18, s115_19, s115_22, s115_25, s115_26, s115_27, s115_30, s115_33, s115_34, s115_35, s115_36, s115_38, s115_39, s115_43, s115_44, s115_47, s115_48, s115_51, s115_52, s115_55, s115_58, s115_59, s115_61, s115_64, s115_66, s115_67, s115_70, s115_71, s115_74, s115_77, s115_80, s115_81, s115_84, s115_87, true_or, or_true, or_false, false_or, or_self, Int32.reduceLT, Int32.reduceLE, Nat.add_zero, Nat.zero_add, Nat.not_lt_zero, not_false_eq_true, not_true_eq_false, and_assoc, kl_q, kl_i, kl_r, kl_n, kl_0, kl_l, cs_0, cs_i, cs_r, cs_n, cs_l, aRf_s, aRf_n, gi_wl, gi_wr, gl_wi, gl_wl, gl_wr, gr_wi, gr_wl, gr_wr, sh_wi, sh_wl, sh_wr, gl_cp, gr_cp, sh_cp, gl_rw, gr_rw, sh_rw, gi_rl, gr_rl, sh_rl, Option.toList_some, Option.toList_none, List.nil_append, List.cons_append, List.append_nil, Option.some.injEq, Prod.mk.injEq, and_true, true_and, and_self, if_true, if_false, reduceCtorEq, Nat.reduceLeDiff, Nat.reduceLT, Nat.reduceAdd, Nat.reduceEqDiff, false_and, and_false, exists_const, exists_eq_left, exists_eq_left', exists_and_left, and_assoc, nltL, nltR, nleL, nleR, neqL, neqR, naL, naR, nmL, nmR, nI_ltI, nI_leI, nI_eq, nI_add, nI_mul, nI_clamp, n0l, n0r, nm1, nm1', nm1l, nm1r, nm1g, nsL, nI_m1, Nat.add_sub_cancel, vpn, vpL, nclL, le32, leLL, leLN, leNL, leNN, inA, nb0, nb1, gi_wi_n, gi_wi_e, gi_rw_n, gi_rw_e, aWi_rw, ifl, ifl_, ifle, ifle_, ifq, ifq_, ifnq, ifnq_, ifnl, ifnl_, ifnle, ifnle_, z32 ok, c_noRide ok hM' r1, h0d, bI_0]
    refine ⟨-1, rfl, ?_⟩
    simp (disch := omega) only [s235_0, s235_1, s235_4, s235_7, s235_8, s235_9, s235_12, s235_15, s235_16, s235_17, s235_18, s235_19, s235_22, s235_23, s235_27, s235_28, s235_31, s235_32, s235_35, s235_36, s235_37, s235_40, s235_43, s235_45, s235_46, s235_49, s235_50, s235_52, s235_53, s235_54, s235_55, s235_58, s235_59, s235_60, s235_61, s235_62, s235_65, s235_66, s235_67, s235_69, s235_72, s235_73, s235_76, s235_79, s235_80, s235_83, s235_85, s235_86, s235_88, s235_91, s235_92, s235_93, s235_96, s235_99, s235_102, s235_103, s235_106, s235_108, s235_109, s231_0, s231_1, s231_2, s231_4, s231_7, s231_10, s231_11, s231_14, s231_16, s231_17, s231_18, s231_19, s231_22, s231_25, s231_26, s231_29, s231_30, true_or, or_true, or_false, false_or, or_self, Int32.reduceLT, Int32.reduceLE, Nat.add_zero, Nat.zero_add, Nat.not_lt_zero, not_false_eq_true, not_true_eq_false, and_assoc, kl_q, kl_i, kl_r, kl_n, kl_0, kl_l, cs_0, cs_i, cs_r, cs_n, cs_l, aRf_s, aRf_n, gi_wl, gi_wr, gl_wi, gl_wl, gl_wr, gr_wi, gr_wl, gr_wr, sh_wi, sh_wl, sh_wr, gl_cp, gr_cp, sh_cp, gl_rw, gr_rw, sh_rw, gi_rl, gr_rl, sh_rl, Option.toList_some, Option.toList_none, List.nil_append, List.cons_append, List.append_nil, Option.some.injEq, Prod.mk.injEq, and_true, true_and, and_self, if_true, if_false, reduceCtorEq, Nat.reduceLeDiff, Nat.reduceLT, Nat.reduceAdd, Nat.reduceEqDiff, false_and, and_false, exists_const, exists_eq_left, exists_eq_left', exists_and_left, and_assoc, nltL, nltR, nleL, nleR, neqL, neqR, naL, naR, nmL, nmR, nI_ltI, nI_leI, nI_eq, nI_add, nI_mul, nI_clamp, n0l, n0r, nm1, nm1', nm1l, nm1r, nm1g, nsL, nI_m1, Nat.add_sub_cancel, vpn, vpL, nclL, le32, leLL, leLN, leNL, leNN, inA, nb0, nb1, gi_wi_n, gi_wi_e, gi_rw_n, gi_rw_e, aWi_rw, ifl, ifl_, ifle, ifle_, ifq, ifq_, ifnq, ifnq_, ifnl, ifnl_, ifnle, ifnle_, z399 ok, r2, h0, m_in, hi, bI_0]
    exact inv
  · simp (disch := omega) only [s115_0, s115_1, s115_4, s115_7, s115_8, s115_9, s115_12, s115_13, s115_15, s115_18, s115_19, s115_22, s115_25, s115_26, s115_27, s115_30, s115_33, s115_34, s115_35, s115_36, s115_38, s115_39, s115_43, s115_44, s115_47, s115_48, s115_51, s115_52, s115_55, s115_58, s115_59, s115_61, s115_64, s115_66, s115_67, s115_70, s115_71, s115_74, s115_77, s115_80, s115_81, s115_84, s115_87, true_or, or_true, or_false, false_or, or_self, Int32.reduceLT, Int32.reduceLE, Nat.add_zero, Nat.zero_add, Nat.not_lt_zero, not_false_eq_true, not_true_eq_false, and_assoc, kl_q, kl_i, kl_r, kl_n, kl_0, kl_l, cs_0, cs_i, cs_r, cs_n, cs_l, aRf_s, aRf_n, gi_wl, gi_wr, gl_wi, gl_wl, gl_wr, gr_wi, gr_wl, gr_wr, sh_wi, sh_wl, sh_wr, gl_cp, gr_cp, sh_cp, gl_rw, gr_rw, sh_rw, gi_rl, gr_rl, sh_rl, Option.toList_some, Option.toList_none, List.nil_append, List.cons_append, List.append_nil, Option.some.injEq, Prod.mk.injEq, and_true, true_and, and_self, if_true, if_false, reduceCtorEq, Nat.reduceLeDiff, Nat.reduceLT, Nat.reduceAdd, Nat.reduceEqDiff, false_and, and_false, exists_const, exists_eq_left, exists_eq_left', exists_and_left, and_assoc, nltL, nltR, nleL, nleR, neqL, neqR, naL, naR, nmL, nmR, nI_ltI, nI_leI, nI_eq, nI_add, nI_mul, nI_clamp, n0l, n0r, nm1, nm1', nm1l, nm1r, nm1g, nsL, nI_m1, Nat.add_sub_cancel, vpn, vpL, nclL, le32, leLL, leLN, leNL, leNN, inA, nb0, nb1, gi_wi_n, gi_wi_e, gi_rw_n, gi_rw_e, aWi_rw, ifl, ifl_, ifle, ifle_, ifq, ifq_, ifnq, ifnq_, ifnl, ifnl_, ifnle, ifnle_, z32 ok, c_noRide ok hM' r1, h0d, bI_0]
    refine ⟨-1, rfl, ?_⟩
    simp (disch := omega) only [s235_0, s235_1, s235_4, s235_7, s235_8, s235_9, s235_12, s235_15, s235_16, s235_17, s235_18, s235_19, s235_22, s235_23, s235_27, s235_28, s235_31, s235_32, s235_35, s235_36, s235_37, s235_40, s235_43, s235_45, s235_46, s235_49, s235_50, s235_52, s235_53, s235_54, s235_55, s235_58, s235_59, s235_60, s235_61, s235_62, s235_65, s235_66, s235_67, s235_69, s235_72, s235_73, s235_76, s235_79, s235_80, s235_83, s235_85, s235_86, s235_88, s235_91, s235_92, s235_93, s235_96, s235_99, s235_102, s235_103, s235_106, s235_108, s235_109, s231_0, s231_1, s231_2, s231_4, s231_7, s231_10, s231_11, s231_14, s231_16, s231_17, s231_18, s231_19, s231_22, s231_25, s231_26, s231_29, s231_30, true_or, or_true, or_false, false_or, or_self, Int32.reduceLT, Int32.reduceLE, Nat.add_zero, Nat.zero_add, Nat.not_lt_zero, not_false_eq_true, not_true_eq_false, and_assoc, kl_q, kl_i, kl_r, kl_n, kl_0, kl_l, cs_0, cs_i, cs_r, cs_n, cs_l, aRf_s, aRf_n, gi_wl, gi_wr, gl_wi, gl_wl, gl_wr, gr_wi, gr_wl, gr_wr, sh_wi, sh_wl, sh_wr, gl_cp, gr_cp, sh_cp, gl_rw, gr_rw, sh_rw, gi_rl, gr_rl, sh_rl, Option.toList_some, Option.toList_none, List.nil_append, List.cons_append, List.append_nil, Option.some.injEq, Prod.mk.injEq, and_true, true_and, and_self, if_true, if_false, reduceCtorEq, Nat.reduceLeDiff, Nat.reduceLT, Nat.reduceAdd, Nat.reduceEqDiff, false_and, and_false, exists_const, exists_eq_left, exists_eq_left', exists_and_left, and_assoc, nltL, nltR, nleL, nleR, neqL, neqR, naL, naR, nmL, nmR, nI_ltI, nI_leI, nI_eq, nI_add, nI_mul, nI_clamp, n0l, n0r, nm1, nm1', nm1l, nm1r, nm1g, nsL, nI_m1, Nat.add_sub_cancel, vpn, vpL, nclL, le32, leLL, leLN, leNL, leNN, inA, nb0, nb1, gi_wi_n, gi_wi_e, gi_rw_n, gi_rw_e, aWi_rw, ifl, ifl_, ifle, ifle_, ifq, ifq_, ifnq, ifnq_, ifnl, ifnl_, ifnle, ifnle_, z399 ok, r2, h0, m_in, hi, bI_0]
    exact inv
  have n1 : ¬ n < 1 := by omega
  by_cases hl : 999 < D + n
  · simp (disch := omega) only [s115_0, s115_1, s115_4, s115_7, s115_8, s115_9, s115_12, s115_13, s115_15, s115_18, s115_19, s115_22, s115_25, s115_26, s115_27, s115_30, s115_33, s115_34, s115_35, s115_36, s115_38, s115_39, s115_43, s115_44, s115_47, s115_48, s115_51, s115_52, s115_55, s115_58, s115_59, s115_61, s115_64, s115_66, s115_67, s115_70, s115_71, s115_74, s115_77, s115_80, s115_81, s115_84, s115_87, true_or, or_true, or_false, false_or, or_self, Int32.reduceLT, Int32.reduceLE, Nat.add_zero, Nat.zero_add, Nat.not_lt_zero, not_false_eq_true, not_true_eq_false, and_assoc, kl_q, kl_i, kl_r, kl_n, kl_0, kl_l, cs_0, cs_i, cs_r, cs_n, cs_l, aRf_s, aRf_n, gi_wl, gi_wr, gl_wi, gl_wl, gl_wr, gr_wi, gr_wl, gr_wr, sh_wi, sh_wl, sh_wr, gl_cp, gr_cp, sh_cp, gl_rw, gr_rw, sh_rw, gi_rl, gr_rl, sh_rl, Option.toList_some, Option.toList_none, List.nil_append, List.cons_append, List.append_nil, Option.some.injEq, Prod.mk.injEq, and_true, true_and, and_self, if_true, if_false, reduceCtorEq, Nat.reduceLeDiff, Nat.reduceLT, Nat.reduceAdd, Nat.reduceEqDiff, false_and, and_false, exists_const, exists_eq_left, exists_eq_left', exists_and_left, and_assoc, nltL, nltR, nleL, nleR, neqL, neqR, naL, naR, nmL, nmR, nI_ltI, nI_leI, nI_eq, nI_add, nI_mul, nI_clamp, n0l, n0r, nm1, nm1', nm1l, nm1r, nm1g, nsL, nI_m1, Nat.add_sub_cancel, vpn, vpL, nclL, le32, leLL, leLN, leNL, leNN, inA, nb0, nb1, gi_wi_n, gi_wi_e, gi_rw_n, gi_rw_e, aWi_rw, ifl, ifl_, ifle, ifle_, ifq, ifq_, ifnq, ifnq_, ifnl, ifnl_, ifnle, ifnle_, z32 ok, z79 ok, r32_5 ok, c_noRide ok hM' r1, h0d, bI_0, w6, n1]
    refine ⟨-1, rfl, ?_⟩
    simp (disch := omega) only [s235_0, s235_1, s235_4, s235_7, s235_8, s235_9, s235_12, s235_15, s235_16, s235_17, s235_18, s235_19, s235_22, s235_23, s235_27, s235_28, s235_31, s235_32, s235_35, s235_36, s235_37, s235_40, s235_43, s235_45, s235_46, s235_49, s235_50, s235_52, s235_53, s235_54, s235_55, s235_58, s235_59, s235_60, s235_61, s235_62, s235_65, s235_66, s235_67, s235_69, s235_72, s235_73, s235_76, s235_79, s235_80, s235_83, s235_85, s235_86, s235_88, s235_91, s235_92, s235_93, s235_96, s235_99, s235_102, s235_103, s235_106, s235_108, s235_109, s231_0, s231_1, s231_2, s231_4, s231_7, s231_10, s231_11, s231_14, s231_16, s231_17, s231_18, s231_19, s231_22, s231_25, s231_26, s231_29, s231_30, true_or, or_true, or_false, false_or, or_self, Int32.reduceLT, Int32.reduceLE, Nat.add_zero, Nat.zero_add, Nat.not_lt_zero, not_false_eq_true, not_true_eq_false, and_assoc, kl_q, kl_i, kl_r, kl_n, kl_0, kl_l, cs_0, cs_i, cs_r, cs_n, cs_l, aRf_s, aRf_n, gi_wl, gi_wr, gl_wi, gl_wl, gl_wr, gr_wi, gr_wl, gr_wr, sh_wi, sh_wl, sh_wr, gl_cp, gr_cp, sh_cp, gl_rw, gr_rw, sh_rw, gi_rl, gr_rl, sh_rl, Option.toList_some, Option.toList_none, List.nil_append, List.cons_append, List.append_nil, Option.some.injEq, Prod.mk.injEq, and_true, true_and, and_self, if_true, if_false, reduceCtorEq, Nat.reduceLeDiff, Nat.reduceLT, Nat.reduceAdd, Nat.reduceEqDiff, false_and, and_false, exists_const, exists_eq_left, exists_eq_left', exists_and_left, and_assoc, nltL, nltR, nleL, nleR, neqL, neqR, naL, naR, nmL, nmR, nI_ltI, nI_leI, nI_eq, nI_add, nI_mul, nI_clamp, n0l, n0r, nm1, nm1', nm1l, nm1r, nm1g, nsL, nI_m1, Nat.add_sub_cancel, vpn, vpL, nclL, le32, leLL, leLN, leNL, leNN, inA, nb0, nb1, gi_wi_n, gi_wi_e, gi_rw_n, gi_rw_e, aWi_rw, ifl, ifl_, ifle, ifle_, ifq, ifq_, ifnq, ifnq_, ifnl, ifnl_, ifnle, ifnle_, z399 ok, z416 ok, r399_27 ok, r2, h0, m_in, hi, bI_0, Bool.true_eq_false, x32]
    exact inv
  obtain ⟨q0, eq0⟩ : ∃ q0 : Ab, q0 = (s, D, c, ks, Dk, lg) := ⟨_, rfl⟩
  have ab0 : AB M q0 := by
    rw [eq0]
    exact ⟨i10, fun x hx => ⟨i11.1, hx, i11.2.2⟩⟩
  have hq0 : q0.2.1 = D := by rw [eq0]
  obtain ⟨qk, eqk⟩ : ∃ qk, qk = qY g M F L W (gi g 399 30) q0 x0 := ⟨_, rfl⟩
  have abk : ∀ k, k ≤ n → AB M (qk k).1 := fun k hk => by
    rw [eqk]
    exact qY_ab ab0 hM h0' hL hW k (by omega)
  have ddk : ∀ k, (qk k).1.2.1 = D + k := fun k => by rw [eqk, qY_d, hq0]
  have qs : ∀ k, qk (k + 1) = (dyQ g M F L W (qk k).1 (chS M L (gi g 399 30) (qk k).1.1 (qk k).2).1, (chS M L (gi g 399 30) (qk k).1.1 (qk k).2).2) := fun k => by
    rw [eqk]
    rfl
  have qz : qk 0 = (q0, x0) := by
    rw [eqk]
    rfl
  simp (disch := omega) only [s115_0, s115_1, s115_4, s115_7, s115_8, s115_9, s115_12, s115_13, s115_15, s115_18, s115_19, s115_22, s115_25, s115_26, s115_27, s115_30, s115_33, s115_34, s115_35, s115_36, s115_38, s115_39, s115_43, s115_44, s115_47, s115_48, s115_51, s115_52, s115_55, s115_58, s115_59, s115_61, s115_64, s115_66, s115_67, s115_70, s115_71, s115_74, s115_77, s115_80, s115_81, s115_84, s115_87, true_or, or_true, or_false, false_or, or_self, Int32.reduceLT, Int32.reduceLE, Nat.add_zero, Nat.zero_add, Nat.not_lt_zero, not_false_eq_true, not_true_eq_false, and_assoc, kl_q, kl_i, kl_r, kl_n, kl_0, kl_l, cs_0, cs_i, cs_r, cs_n, cs_l, aRf_s, aRf_n, gi_wl, gi_wr, gl_wi, gl_wl, gl_wr, gr_wi, gr_wl, gr_wr, sh_wi, sh_wl, sh_wr, gl_cp, gr_cp, sh_cp, gl_rw, gr_rw, sh_rw, gi_rl, gr_rl, sh_rl, Option.toList_some, Option.toList_none, List.nil_append, List.cons_append, List.append_nil, Option.some.injEq, Prod.mk.injEq, and_true, true_and, and_self, if_true, if_false, reduceCtorEq, Nat.reduceLeDiff, Nat.reduceLT, Nat.reduceAdd, Nat.reduceEqDiff, false_and, and_false, exists_const, exists_eq_left, exists_eq_left', exists_and_left, and_assoc, nltL, nltR, nleL, nleR, neqL, neqR, naL, naR, nmL, nmR, nI_ltI, nI_leI, nI_eq, nI_add, nI_mul, nI_clamp, n0l, n0r, nm1, nm1', nm1l, nm1r, nm1g, nsL, nI_m1, Nat.add_sub_cancel, vpn, vpL, nclL, le32, leLL, leLN, leNL, leNN, inA, nb0, nb1, gi_wi_n, gi_wi_e, gi_rw_n, gi_rw_e, aWi_rw, ifl, ifl_, ifle, ifle_, ifq, ifq_, ifnq, ifnq_, ifnl, ifnl_, ifnle, ifnle_, z32 ok, z79 ok, r32_5 ok, c_noRide ok hM' r1, h0d, bI_0, w6, n1]
  refine aLoop n (fun k lv h => lv = [some (.ref 32), some (.int (nI n)), some (.long x0), none, some (.long (qk k).2), none, some (.int (nI k))] ∧ Ag CDZ g h ∧ CR h M F (qk k).1) ?_ ?_ 0 _ _ (Nat.zero_le _) ⟨by rw [qz]; rfl, Ag.refl ok, nx, hnx, by rw [qz, eq0]; exact i5, by rw [qz, eq0]; exact i6, by rw [qz, eq0]; exact i7⟩
  · rintro k lv h hk ⟨rfl, a1, nx', hn', c1, c2, c3⟩ hk2
    have ok := a1.1
    have e1 : ¬ n ≤ k := by omega
    have ab := abk k (by omega)
    rw [s115_41]
    simp (disch := omega) only [s115_0, s115_1, s115_4, s115_7, s115_8, s115_9, s115_12, s115_13, s115_15, s115_18, s115_19, s115_22, s115_25, s115_26, s115_27, s115_30, s115_33, s115_34, s115_35, s115_36, s115_38, s115_39, s115_43, s115_44, s115_47, s115_48, s115_51, s115_52, s115_55, s115_58, s115_59, s115_61, s115_64, s115_66, s115_67, s115_70, s115_71, s115_74, s115_77, s115_80, s115_81, s115_84, s115_87, true_or, or_true, or_false, false_or, or_self, Int32.reduceLT, Int32.reduceLE, Nat.add_zero, Nat.zero_add, Nat.not_lt_zero, not_false_eq_true, not_true_eq_false, and_assoc, kl_q, kl_i, kl_r, kl_n, kl_0, kl_l, cs_0, cs_i, cs_r, cs_n, cs_l, aRf_s, aRf_n, gi_wl, gi_wr, gl_wi, gl_wl, gl_wr, gr_wi, gr_wl, gr_wr, sh_wi, sh_wl, sh_wr, gl_cp, gr_cp, sh_cp, gl_rw, gr_rw, sh_rw, gi_rl, gr_rl, sh_rl, Option.toList_some, Option.toList_none, List.nil_append, List.cons_append, List.append_nil, Option.some.injEq, Prod.mk.injEq, and_true, true_and, and_self, if_true, if_false, reduceCtorEq, Nat.reduceLeDiff, Nat.reduceLT, Nat.reduceAdd, Nat.reduceEqDiff, false_and, and_false, exists_const, exists_eq_left, exists_eq_left', exists_and_left, and_assoc, nltL, nltR, nleL, nleR, neqL, neqR, naL, naR, nmL, nmR, nI_ltI, nI_leI, nI_eq, nI_add, nI_mul, nI_clamp, n0l, n0r, nm1, nm1', nm1l, nm1r, nm1g, nsL, nI_m1, Nat.add_sub_cancel, vpn, vpL, nclL, le32, leLL, leLN, leNL, leNN, inA, nb0, nb1, gi_wi_n, gi_wi_e, gi_rw_n, gi_rw_e, aWi_rw, ifl, ifl_, ifle, ifle_, ifq, ifq_, ifnq, ifnq_, ifnl, ifnl_, ifnle, ifnle_, z32 ok, z89 ok, r32_5 ok, r32_7 ok, e1]
    refine c_actsKeep ok hM hF (ab.2 nx' hn').1 hn' c1 c2 (fun h1 b1 kc1 => ?_)
    have tz1 : Ag CDZ g h1 := a1.trans (b1.mono (fun a k z => Or.inl (by unfold AZ BZ at z; omega)))
    have sc1 : StC h1 M F 79 (qk k).1.1 := c1.eq (fun b k hb => b1.2 _ _ (by unfold AZ BZ; omega))
    have di1 : DiR h1 (qk k).1.2.2.2.2.2 86 (qk k).1.2.1 ((qk k).1.2.2.2.2.1 0) := c3.eq (fun w k hw => b1.2 _ _ (by unfold AZ BZ; omega))
    have ok := tz1.1
    have it1 : ITold h1 M F L W := it.tz (fun a k z => tz1.2 a k (nCT z))
    have e18' : gi h1 32 18 = gi g 399 30 := by rw [tz1.2 _ _ (fun z => z.elim (by omega) (nS2 (by omega))), e18]
    simp (disch := omega) only [s115_0, s115_1, s115_4, s115_7, s115_8, s115_9, s115_12, s115_13, s115_15, s115_18, s115_19, s115_22, s115_25, s115_26, s115_27, s115_30, s115_33, s115_34, s115_35, s115_36, s115_38, s115_39, s115_43, s115_44, s115_47, s115_48, s115_51, s115_52, s115_55, s115_58, s115_59, s115_61, s115_64, s115_66, s115_67, s115_70, s115_71, s115_74, s115_77, s115_80, s115_81, s115_84, s115_87, true_or, or_true, or_false, false_or, or_self, Int32.reduceLT, Int32.reduceLE, Nat.add_zero, Nat.zero_add, Nat.not_lt_zero, not_false_eq_true, not_true_eq_false, and_assoc, kl_q, kl_i, kl_r, kl_n, kl_0, kl_l, cs_0, cs_i, cs_r, cs_n, cs_l, aRf_s, aRf_n, gi_wl, gi_wr, gl_wi, gl_wl, gl_wr, gr_wi, gr_wl, gr_wr, sh_wi, sh_wl, sh_wr, gl_cp, gr_cp, sh_cp, gl_rw, gr_rw, sh_rw, gi_rl, gr_rl, sh_rl, Option.toList_some, Option.toList_none, List.nil_append, List.cons_append, List.append_nil, Option.some.injEq, Prod.mk.injEq, and_true, true_and, and_self, if_true, if_false, reduceCtorEq, Nat.reduceLeDiff, Nat.reduceLT, Nat.reduceAdd, Nat.reduceEqDiff, false_and, and_false, exists_const, exists_eq_left, exists_eq_left', exists_and_left, and_assoc, nltL, nltR, nleL, nleR, neqL, neqR, naL, naR, nmL, nmR, nI_ltI, nI_leI, nI_eq, nI_add, nI_mul, nI_clamp, n0l, n0r, nm1, nm1', nm1l, nm1r, nm1g, nsL, nI_m1, Nat.add_sub_cancel, vpn, vpL, nclL, le32, leLL, leLN, leNL, leNN, inA, nb0, nb1, gi_wi_n, gi_wi_e, gi_rw_n, gi_rw_e, aWi_rw, ifl, ifl_, ifle, ifle_, ifq, ifq_, ifnq, ifnq_, ifnl, ifnl_, ifnle, ifnle_, z32 ok]
    refine c_chance ok it1 sc1 h0' e18' (fun h2 b2 sc2 => ?_)
    have tz2 : Ag CDZ g h2 := tz1.trans (b2.mono (fun a k z => Or.inl (by omega)))
    have di2 : DiR h2 (qk k).1.2.2.2.2.2 86 (qk k).1.2.1 ((qk k).1.2.2.2.2.1 0) := di1.eq (fun w k hw => b2.2 _ _ (by omega))
    have kc2 := kc1.eq (fun a k p r => b2.2 a k (by omega))
    have sb2 := ch_sb (sto := gi g 399 30) (x := (qk k).2) ab.1 hM h0' hL
    have ok := tz2.1
    simp (disch := omega) only [s115_0, s115_1, s115_4, s115_7, s115_8, s115_9, s115_12, s115_13, s115_15, s115_18, s115_19, s115_22, s115_25, s115_26, s115_27, s115_30, s115_33, s115_34, s115_35, s115_36, s115_38, s115_39, s115_43, s115_44, s115_47, s115_48, s115_51, s115_52, s115_55, s115_58, s115_59, s115_61, s115_64, s115_66, s115_67, s115_70, s115_71, s115_74, s115_77, s115_80, s115_81, s115_84, s115_87, true_or, or_true, or_false, false_or, or_self, Int32.reduceLT, Int32.reduceLE, Nat.add_zero, Nat.zero_add, Nat.not_lt_zero, not_false_eq_true, not_true_eq_false, and_assoc, kl_q, kl_i, kl_r, kl_n, kl_0, kl_l, cs_0, cs_i, cs_r, cs_n, cs_l, aRf_s, aRf_n, gi_wl, gi_wr, gl_wi, gl_wl, gl_wr, gr_wi, gr_wl, gr_wr, sh_wi, sh_wl, sh_wr, gl_cp, gr_cp, sh_cp, gl_rw, gr_rw, sh_rw, gi_rl, gr_rl, sh_rl, Option.toList_some, Option.toList_none, List.nil_append, List.cons_append, List.append_nil, Option.some.injEq, Prod.mk.injEq, and_true, true_and, and_self, if_true, if_false, reduceCtorEq, Nat.reduceLeDiff, Nat.reduceLT, Nat.reduceAdd, Nat.reduceEqDiff, false_and, and_false, exists_const, exists_eq_left, exists_eq_left', exists_and_left, and_assoc, nltL, nltR, nleL, nleR, neqL, neqR, naL, naR, nmL, nmR, nI_ltI, nI_leI, nI_eq, nI_add, nI_mul, nI_clamp, n0l, n0r, nm1, nm1', nm1l, nm1r, nm1g, nsL, nI_m1, Nat.add_sub_cancel, vpn, vpL, nclL, le32, leLL, leLN, leNL, leNN, inA, nb0, nb1, gi_wi_n, gi_wi_e, gi_rw_n, gi_rw_e, aWi_rw, ifl, ifl_, ifle, ifle_, ifq, ifq_, ifnq, ifnq_, ifnl, ifnl_, ifnle, ifnle_, z32 ok]
    refine c_ride2 tz2 it i4 sc2 sb2 h0' (fun h3 sa3 cc3 gp3 => ?_)
    have ok := sa3.1
    simp (disch := omega) only [s115_0, s115_1, s115_4, s115_7, s115_8, s115_9, s115_12, s115_13, s115_15, s115_18, s115_19, s115_22, s115_25, s115_26, s115_27, s115_30, s115_33, s115_34, s115_35, s115_36, s115_38, s115_39, s115_43, s115_44, s115_47, s115_48, s115_51, s115_52, s115_55, s115_58, s115_59, s115_61, s115_64, s115_66, s115_67, s115_70, s115_71, s115_74, s115_77, s115_80, s115_81, s115_84, s115_87, true_or, or_true, or_false, false_or, or_self, Int32.reduceLT, Int32.reduceLE, Nat.add_zero, Nat.zero_add, Nat.not_lt_zero, not_false_eq_true, not_true_eq_false, and_assoc, kl_q, kl_i, kl_r, kl_n, kl_0, kl_l, cs_0, cs_i, cs_r, cs_n, cs_l, aRf_s, aRf_n, gi_wl, gi_wr, gl_wi, gl_wl, gl_wr, gr_wi, gr_wl, gr_wr, sh_wi, sh_wl, sh_wr, gl_cp, gr_cp, sh_cp, gl_rw, gr_rw, sh_rw, gi_rl, gr_rl, sh_rl, Option.toList_some, Option.toList_none, List.nil_append, List.cons_append, List.append_nil, Option.some.injEq, Prod.mk.injEq, and_true, true_and, and_self, if_true, if_false, reduceCtorEq, Nat.reduceLeDiff, Nat.reduceLT, Nat.reduceAdd, Nat.reduceEqDiff, false_and, and_false, exists_const, exists_eq_left, exists_eq_left', exists_and_left, and_assoc, nltL, nltR, nleL, nleR, neqL, neqR, naL, naR, nmL, nmR, nI_ltI, nI_leI, nI_eq, nI_add, nI_mul, nI_clamp, n0l, n0r, nm1, nm1', nm1l, nm1r, nm1g, nsL, nI_m1, Nat.add_sub_cancel, vpn, vpL, nclL, le32, leLL, leLN, leNL, leNN, inA, nb0, nb1, gi_wi_n, gi_wi_e, gi_rw_n, gi_rw_e, aWi_rw, ifl, ifl_, ifle, ifle_, ifq, ifq_, ifnq, ifnq_, ifnl, ifnl_, ifnle, ifnle_, z32 ok]
    refine c_close2 tz2 sa3 it ab sb2 (show nxt nx' < 40 by unfold nxt; split <;> omega) sc2 kc2 di2 cc3 gp3 (fun h4 a4 cr4 => ?_)
    simp (disch := omega) only [s115_0, s115_1, s115_4, s115_7, s115_8, s115_9, s115_12, s115_13, s115_15, s115_18, s115_19, s115_22, s115_25, s115_26, s115_27, s115_30, s115_33, s115_34, s115_35, s115_36, s115_38, s115_39, s115_43, s115_44, s115_47, s115_48, s115_51, s115_52, s115_55, s115_58, s115_59, s115_61, s115_64, s115_66, s115_67, s115_70, s115_71, s115_74, s115_77, s115_80, s115_81, s115_84, s115_87, true_or, or_true, or_false, false_or, or_self, Int32.reduceLT, Int32.reduceLE, Nat.add_zero, Nat.zero_add, Nat.not_lt_zero, not_false_eq_true, not_true_eq_false, and_assoc, kl_q, kl_i, kl_r, kl_n, kl_0, kl_l, cs_0, cs_i, cs_r, cs_n, cs_l, aRf_s, aRf_n, gi_wl, gi_wr, gl_wi, gl_wl, gl_wr, gr_wi, gr_wl, gr_wr, sh_wi, sh_wl, sh_wr, gl_cp, gr_cp, sh_cp, gl_rw, gr_rw, sh_rw, gi_rl, gr_rl, sh_rl, Option.toList_some, Option.toList_none, List.nil_append, List.cons_append, List.append_nil, Option.some.injEq, Prod.mk.injEq, and_true, true_and, and_self, if_true, if_false, reduceCtorEq, Nat.reduceLeDiff, Nat.reduceLT, Nat.reduceAdd, Nat.reduceEqDiff, false_and, and_false, exists_const, exists_eq_left, exists_eq_left', exists_and_left, and_assoc, nltL, nltR, nleL, nleR, neqL, neqR, naL, naR, nmL, nmR, nI_ltI, nI_leI, nI_eq, nI_add, nI_mul, nI_clamp, n0l, n0r, nm1, nm1', nm1l, nm1r, nm1g, nsL, nI_m1, Nat.add_sub_cancel, vpn, vpL, nclL, le32, leLL, leLN, leNL, leNN, inA, nb0, nb1, gi_wi_n, gi_wi_e, gi_rw_n, gi_rw_e, aWi_rw, ifl, ifl_, ifle, ifle_, ifq, ifq_, ifnq, ifnq_, ifnl, ifnl_, ifnle, ifnle_]
    exact hk2 _ h4 ⟨by rw [qs], a4, by rw [qs]; exact cr4⟩
  · rintro lv h ⟨rfl, a1, cr⟩
    have ok := a1.1
    have w6' : gi h 79 8 = nI (D + n) := by
      obtain ⟨nx', hn', c1, c2, c3⟩ := cr
      rw [c1.2.2.2.2.2, (abk n (Nat.le_refl _)).1.2.2.2.1, ddk]
    have tz1 : ∀ a k, TZ a k → gi h a k = gi g a k := fun a k z => a1.2 a k (nCT z)
    have r2' : gi h 399 25 = nI M := by rw [tz1 _ _ (by unfold TZ; omega), r2]
    have mr0 : MR h (qk 0).1 := by
      rw [qz, eq0]
      exact ⟨i8.eq (fun k _ => a1.2 _ _ (fun z => z.elim (by omega) (nS3 (by omega)))), i9.eq (a1.2 _ _ (fun z => z.elim (by omega) (by unfold ScrP; omega))) (fun k => a1.2 _ _ (fun z => z.elim (by omega) (nS3 (by omega))))⟩
    have x32' : gi h 416 32 = nI D := by
      rw [a1.2 _ _ (fun z => z.elim (by omega) (nS3 (by omega))), x32]
    rw [s115_41]
    simp (disch := omega) only [s115_0, s115_1, s115_4, s115_7, s115_8, s115_9, s115_12, s115_13, s115_15, s115_18, s115_19, s115_22, s115_25, s115_26, s115_27, s115_30, s115_33, s115_34, s115_35, s115_36, s115_38, s115_39, s115_43, s115_44, s115_47, s115_48, s115_51, s115_52, s115_55, s115_58, s115_59, s115_61, s115_64, s115_66, s115_67, s115_70, s115_71, s115_74, s115_77, s115_80, s115_81, s115_84, s115_87, true_or, or_true, or_false, false_or, or_self, Int32.reduceLT, Int32.reduceLE, Nat.add_zero, Nat.zero_add, Nat.not_lt_zero, not_false_eq_true, not_true_eq_false, and_assoc, kl_q, kl_i, kl_r, kl_n, kl_0, kl_l, cs_0, cs_i, cs_r, cs_n, cs_l, aRf_s, aRf_n, gi_wl, gi_wr, gl_wi, gl_wl, gl_wr, gr_wi, gr_wl, gr_wr, sh_wi, sh_wl, sh_wr, gl_cp, gr_cp, sh_cp, gl_rw, gr_rw, sh_rw, gi_rl, gr_rl, sh_rl, Option.toList_some, Option.toList_none, List.nil_append, List.cons_append, List.append_nil, Option.some.injEq, Prod.mk.injEq, and_true, true_and, and_self, if_true, if_false, reduceCtorEq, Nat.reduceLeDiff, Nat.reduceLT, Nat.reduceAdd, Nat.reduceEqDiff, false_and, and_false, exists_const, exists_eq_left, exists_eq_left', exists_and_left, and_assoc, nltL, nltR, nleL, nleR, neqL, neqR, naL, naR, nmL, nmR, nI_ltI, nI_leI, nI_eq, nI_add, nI_mul, nI_clamp, n0l, n0r, nm1, nm1', nm1l, nm1r, nm1g, nsL, nI_m1, Nat.add_sub_cancel, vpn, vpL, nclL, le32, leLL, leLN, leNL, leNN, inA, nb0, nb1, gi_wi_n, gi_wi_e, gi_rw_n, gi_rw_e, aWi_rw, ifl, ifl_, ifle, ifle_, ifq, ifq_, ifnq, ifnq_, ifnl, ifnl_, ifnle, ifnle_, z32 ok, z79 ok, r32_5 ok, Nat.le_refl, w6']
    refine ⟨_, rfl, ?_⟩
    simp (disch := omega) only [s235_0, s235_1, s235_4, s235_7, s235_8, s235_9, s235_12, s235_15, s235_16, s235_17, s235_18, s235_19, s235_22, s235_23, s235_27, s235_28, s235_31, s235_32, s235_35, s235_36, s235_37, s235_40, s235_43, s235_45, s235_46, s235_49, s235_50, s235_52, s235_53, s235_54, s235_55, s235_58, s235_59, s235_60, s235_61, s235_62, s235_65, s235_66, s235_67, s235_69, s235_72, s235_73, s235_76, s235_79, s235_80, s235_83, s235_85, s235_86, s235_88, s235_91, s235_92, s235_93, s235_96, s235_99, s235_102, s235_103, s235_106, s235_108, s235_109, s231_0, s231_1, s231_2, s231_4, s231_7, s231_10, s231_11, s231_14, s231_16, s231_17, s231_18, s231_19, s231_22, s231_25, s231_26, s231_29, s231_30, true_or, or_true, or_false, false_or, or_self, Int32.reduceLT, Int32.reduceLE, Nat.add_zero, Nat.zero_add, Nat.not_lt_zero, not_false_eq_true, not_true_eq_false, and_assoc, kl_q, kl_i, kl_r, kl_n, kl_0, kl_l, cs_0, cs_i, cs_r, cs_n, cs_l, aRf_s, aRf_n, gi_wl, gi_wr, gl_wi, gl_wl, gl_wr, gr_wi, gr_wl, gr_wr, sh_wi, sh_wl, sh_wr, gl_cp, gr_cp, sh_cp, gl_rw, gr_rw, sh_rw, gi_rl, gr_rl, sh_rl, Option.toList_some, Option.toList_none, List.nil_append, List.cons_append, List.append_nil, Option.some.injEq, Prod.mk.injEq, and_true, true_and, and_self, if_true, if_false, reduceCtorEq, Nat.reduceLeDiff, Nat.reduceLT, Nat.reduceAdd, Nat.reduceEqDiff, false_and, and_false, exists_const, exists_eq_left, exists_eq_left', exists_and_left, and_assoc, nltL, nltR, nleL, nleR, neqL, neqR, naL, naR, nmL, nmR, nI_ltI, nI_leI, nI_eq, nI_add, nI_mul, nI_clamp, n0l, n0r, nm1, nm1', nm1l, nm1r, nm1g, nsL, nI_m1, Nat.add_sub_cancel, vpn, vpL, nclL, le32, leLL, leLN, leNL, leNN, inA, nb0, nb1, gi_wi_n, gi_wi_e, gi_rw_n, gi_rw_e, aWi_rw, ifl, ifl_, ifle, ifle_, ifq, ifq_, ifnq, ifnq_, ifnl, ifnl_, ifnle, ifnle_, z399 ok, z416 ok, r399_27 ok, r2', h0, m_in, hi, bI_0, Bool.true_eq_false, x32', nb0, nb1]
    refine aLoop n (fun k lv h' => ∃ z, lv = [some (.ref 399), some (.int (nI n)), some (.long x0), none, some (.int (nI k)), z] ∧ Ag MDZ h h' ∧ MR h' (qk k).1 ∧ gl h' 399 39 = (qk k).2) ?_ ?_ 0 _ _ (Nat.zero_le _) ⟨_, rfl, Ag.refl ok, mr0, by rw [qz, gl_wl, if_pos ⟨rfl, rfl⟩]⟩
    · rintro k lv h' hk ⟨z, rfl, a2, ⟨m1, m2⟩, gx⟩ hk2
      have ok := a2.1
      have e1 : ¬ n ≤ k := by omega
      have ab := abk k (by omega)
      have sb2 := ch_sb (sto := gi g 399 30) (x := (qk k).2) ab.1 hM h0' hL
      rw [s235_25]
      simp (disch := omega) only [s235_0, s235_1, s235_4, s235_7, s235_8, s235_9, s235_12, s235_15, s235_16, s235_17, s235_18, s235_19, s235_22, s235_23, s235_27, s235_28, s235_31, s235_32, s235_35, s235_36, s235_37, s235_40, s235_43, s235_45, s235_46, s235_49, s235_50, s235_52, s235_53, s235_54, s235_55, s235_58, s235_59, s235_60, s235_61, s235_62, s235_65, s235_66, s235_67, s235_69, s235_72, s235_73, s235_76, s235_79, s235_80, s235_83, s235_85, s235_86, s235_88, s235_91, s235_92, s235_93, s235_96, s235_99, s235_102, s235_103, s235_106, s235_108, s235_109, true_or, or_true, or_false, false_or, or_self, Int32.reduceLT, Int32.reduceLE, Nat.add_zero, Nat.zero_add, Nat.not_lt_zero, not_false_eq_true, not_true_eq_false, and_assoc, kl_q, kl_i, kl_r, kl_n, kl_0, kl_l, cs_0, cs_i, cs_r, cs_n, cs_l, aRf_s, aRf_n, gi_wl, gi_wr, gl_wi, gl_wl, gl_wr, gr_wi, gr_wl, gr_wr, sh_wi, sh_wl, sh_wr, gl_cp, gr_cp, sh_cp, gl_rw, gr_rw, sh_rw, gi_rl, gr_rl, sh_rl, Option.toList_some, Option.toList_none, List.nil_append, List.cons_append, List.append_nil, Option.some.injEq, Prod.mk.injEq, and_true, true_and, and_self, if_true, if_false, reduceCtorEq, Nat.reduceLeDiff, Nat.reduceLT, Nat.reduceAdd, Nat.reduceEqDiff, false_and, and_false, exists_const, exists_eq_left, exists_eq_left', exists_and_left, and_assoc, nltL, nltR, nleL, nleR, neqL, neqR, naL, naR, nmL, nmR, nI_ltI, nI_leI, nI_eq, nI_add, nI_mul, nI_clamp, n0l, n0r, nm1, nm1', nm1l, nm1r, nm1g, nsL, nI_m1, Nat.add_sub_cancel, vpn, vpL, nclL, le32, leLL, leLN, leNL, leNN, inA, nb0, nb1, gi_wi_n, gi_wi_e, gi_rw_n, gi_rw_e, aWi_rw, ifl, ifl_, ifle, ifle_, ifq, ifq_, ifnq, ifnq_, ifnl, ifnl_, ifnle, ifnle_, z399 ok, e1]
      have hkp := AW.kp (d := d + 23) sL_ok rfl (k := 222) rfl (m_keep (Q := fun v h3 => v = none ∧ Ag MK h' h3 ∧ KM h3 (qk k).1.2.2.2.2.2 (min 40 ((qk k).1.2.2.1 + 1)) (kpK (qk k).1.2.2.1 (qk k).1.2.2.2.1 (qk k).1.1) (kpD (qk k).1.2.2.1 (qk k).1.2.2.2.2.1 ((qk k).1.2.1 + 1))) ok (ab.2 0 (by omega)).1 m1 m2 (ab.2 0 (by omega)).2.2.2.1 (fun h3 b3 km3 => ⟨rfl, b3, km3⟩))
      refine AW.mono hkp (fun v h3 hv => ?_)
      obtain ⟨⟨rfl, b3, km3⟩, kp3⟩ := hv
      have a3 : Ag MDZ h h3 := a2.trans (b3.mono (fun a k z => by unfold MK at z; unfold MDZ; omega))
      have tz3 : ∀ a k, TZ a k → gi h3 a k = gi g a k := fun a k z => by rw [a3.2 a k (nMT z), tz1 a k z]
      have sm3 := m1.eq (fun k _ => b3.2 416 (0 + k) (by unfold MK; omega))
      have ok := a3.1
      have gx3 : gl h3 399 39 = (qk k).2 := by rw [kp3.2.2 rfl, gx]
      have r2' : gi h3 399 25 = nI M := by rw [tz3 _ _ (by unfold TZ; omega), r2]
      have r6' : gi h3 413 0 = nI L := by rw [tz3 _ _ (by unfold TZ; omega), r6]
      have s30 : gi h3 399 30 = gi g 399 30 := by rw [a3.2 _ _ (by unfold MDZ ScrP; omega), a1.2 _ _ (fun z => z.elim (by omega) (by unfold ScrP; omega))]
      obtain ⟨m, hm, em⟩ := dr_b (nx64 (qk k).2) (m := M) (by omega) (by omega)
      have m214 : m < 214 := by omega
      have fin : ∀ h4 x4, OK h4 → (∀ a k, ¬ a = 416 → gi h4 a k = gi h3 a k) → gl h4 399 39 = x4 → StM h4 (qk k).1.2.2.2.2.2 416 0 (chS M L (gi g 399 30) (qk k).1.1 (qk k).2).1 (qk k).1.2.1 → x4 = (chS M L (gi g 399 30) (qk k).1.1 (qk k).2).2 → AW (d + 24) 235 92 [some (.ref 399), some (.int (nI n)), some (.long x0), none, some (.int (nI k)), some (.int (nI m))] [] h4 (fun v' h2 => v' = some (.int (nI (D + n))) ∧ Inv h2) := by
        intro h4 x4 ok4 t4 gx4 st4 ex4
        have ok := ok4
        have tz4 : ∀ a k, TZ a k → gi h4 a k = gi g a k := fun a k z => by rw [t4 a k (by unfold TZ at z; omega), tz3 a k z]
        simp (disch := omega) only [s235_0, s235_1, s235_4, s235_7, s235_8, s235_9, s235_12, s235_15, s235_16, s235_17, s235_18, s235_19, s235_22, s235_23, s235_27, s235_28, s235_31, s235_32, s235_35, s235_36, s235_37, s235_40, s235_43, s235_45, s235_46, s235_49, s235_50, s235_52, s235_53, s235_54, s235_55, s235_58, s235_59, s235_60, s235_61, s235_62, s235_65, s235_66, s235_67, s235_69, s235_72, s235_73, s235_76, s235_79, s235_80, s235_83, s235_85, s235_86, s235_88, s235_91, s235_92, s235_93, s235_96, s235_99, s235_102, s235_103, s235_106, s235_108, s235_109, true_or, or_true, or_false, false_or, or_self, Int32.reduceLT, Int32.reduceLE, Nat.add_zero, Nat.zero_add, Nat.not_lt_zero, not_false_eq_true, not_true_eq_false, and_assoc, kl_q, kl_i, kl_r, kl_n, kl_0, kl_l, cs_0, cs_i, cs_r, cs_n, cs_l, aRf_s, aRf_n, gi_wl, gi_wr, gl_wi, gl_wl, gl_wr, gr_wi, gr_wl, gr_wr, sh_wi, sh_wl, sh_wr, gl_cp, gr_cp, sh_cp, gl_rw, gr_rw, sh_rw, gi_rl, gr_rl, sh_rl, Option.toList_some, Option.toList_none, List.nil_append, List.cons_append, List.append_nil, Option.some.injEq, Prod.mk.injEq, and_true, true_and, and_self, if_true, if_false, reduceCtorEq, Nat.reduceLeDiff, Nat.reduceLT, Nat.reduceAdd, Nat.reduceEqDiff, false_and, and_false, exists_const, exists_eq_left, exists_eq_left', exists_and_left, and_assoc, nltL, nltR, nleL, nleR, neqL, neqR, naL, naR, nmL, nmR, nI_ltI, nI_leI, nI_eq, nI_add, nI_mul, nI_clamp, n0l, n0r, nm1, nm1', nm1l, nm1r, nm1g, nsL, nI_m1, Nat.add_sub_cancel, vpn, vpL, nclL, le32, leLL, leLN, leNL, leNN, inA, nb0, nb1, gi_wi_n, gi_wi_e, gi_rw_n, gi_rw_e, aWi_rw, ifl, ifl_, ifle, ifle_, ifq, ifq_, ifnq, ifnq_, ifnl, ifnl_, ifnle, ifnle_, z399 ok]
        have hkp := AW.kp (d := d + 23) sL_ok rfl (k := 230) rfl (m_day2 (d := d + 13) (Q := fun v h5 => v = none ∧ Ag MDZ h4 h5 ∧ MR h5 (dyQ g M F L W (qk k).1 (chS M L (gi g 399 30) (qk k).1.1 (qk k).2).1)) tz4 ok it i4 ab sb2 h0' (by rw [ddk]; omega) st4 (km3.eq (t4 _ _ (by omega)) (fun k => t4 _ _ (by omega))) (fun h5 a5 mr5 => ⟨rfl, a5, mr5⟩))
        refine AW.mono hkp (fun v h5 hv => ?_)
        obtain ⟨⟨rfl, a5, mr5⟩, kp5⟩ := hv
        simp (disch := omega) only [s235_0, s235_1, s235_4, s235_7, s235_8, s235_9, s235_12, s235_15, s235_16, s235_17, s235_18, s235_19, s235_22, s235_23, s235_27, s235_28, s235_31, s235_32, s235_35, s235_36, s235_37, s235_40, s235_43, s235_45, s235_46, s235_49, s235_50, s235_52, s235_53, s235_54, s235_55, s235_58, s235_59, s235_60, s235_61, s235_62, s235_65, s235_66, s235_67, s235_69, s235_72, s235_73, s235_76, s235_79, s235_80, s235_83, s235_85, s235_86, s235_88, s235_91, s235_92, s235_93, s235_96, s235_99, s235_102, s235_103, s235_106, s235_108, s235_109, true_or, or_true, or_false, false_or, or_self, Int32.reduceLT, Int32.reduceLE, Nat.add_zero, Nat.zero_add, Nat.not_lt_zero, not_false_eq_true, not_true_eq_false, and_assoc, kl_q, kl_i, kl_r, kl_n, kl_0, kl_l, cs_0, cs_i, cs_r, cs_n, cs_l, aRf_s, aRf_n, gi_wl, gi_wr, gl_wi, gl_wl, gl_wr, gr_wi, gr_wl, gr_wr, sh_wi, sh_wl, sh_wr, gl_cp, gr_cp, sh_cp, gl_rw, gr_rw, sh_rw, gi_rl, gr_rl, sh_rl, Option.toList_some, Option.toList_none, List.nil_append, List.cons_append, List.append_nil, Option.some.injEq, Prod.mk.injEq, and_true, true_and, and_self, if_true, if_false, reduceCtorEq, Nat.reduceLeDiff, Nat.reduceLT, Nat.reduceAdd, Nat.reduceEqDiff, false_and, and_false, exists_const, exists_eq_left, exists_eq_left', exists_and_left, and_assoc, nltL, nltR, nleL, nleR, neqL, neqR, naL, naR, nmL, nmR, nI_ltI, nI_leI, nI_eq, nI_add, nI_mul, nI_clamp, n0l, n0r, nm1, nm1', nm1l, nm1r, nm1g, nsL, nI_m1, Nat.add_sub_cancel, vpn, vpL, nclL, le32, leLL, leLN, leNL, leNN, inA, nb0, nb1, gi_wi_n, gi_wi_e, gi_rw_n, gi_rw_e, aWi_rw, ifl, ifl_, ifle, ifle_, ifq, ifq_, ifnq, ifnq_, ifnl, ifnl_, ifnle, ifnle_]
        refine hk2 _ h5 ⟨_, rfl, ⟨a5.1, fun a k z => ?_⟩, by rw [qs]; exact mr5, by rw [qs, kp5.2.2 rfl, gx4, ex4]⟩
        rw [a5.2 a k z, t4 a k (fun y => z (Or.inl y)), a3.2 a k z]
      obtain ⟨y1, ey1⟩ : ∃ y1, y1 = nx64 (qk k).2 := ⟨_, rfl⟩
      obtain ⟨y2, ey2⟩ : ∃ y2, y2 = nx64 y1 := ⟨_, rfl⟩
      obtain ⟨y3, ey3⟩ : ∃ y3, y3 = nx64 y2 := ⟨_, rfl⟩
      obtain ⟨y4, ey4⟩ : ∃ y4, y4 = nx64 y3 := ⟨_, rfl⟩
      rw [← ey1] at em
      have ech : chS M L (gi g 399 30) (qk k).1.1 (qk k).2 = if dr y3 10 < gi g 399 30 then (up (up (qk k).1.1 m (dr y2 (nI (L + 1)))) 30 (dr y4 10), y4) else (up (qk k).1.1 m (dr y2 (nI (L + 1))), y3) := by
        unfold chS
        rw [← ey1, ← ey2, ← ey3, ← ey4, em, cN_n (by omega)]
      simp (disch := omega) only [s235_0, s235_1, s235_4, s235_7, s235_8, s235_9, s235_12, s235_15, s235_16, s235_17, s235_18, s235_19, s235_22, s235_23, s235_27, s235_28, s235_31, s235_32, s235_35, s235_36, s235_37, s235_40, s235_43, true_or, or_true, or_false, false_or, or_self, Int32.reduceLT, Int32.reduceLE, Nat.add_zero, Nat.zero_add, Nat.not_lt_zero, not_false_eq_true, not_true_eq_false, and_assoc, kl_q, kl_i, kl_r, kl_n, kl_0, kl_l, cs_0, cs_i, cs_r, cs_n, cs_l, aRf_s, aRf_n, gi_wl, gi_wr, gl_wi, gl_wl, gl_wr, gr_wi, gr_wl, gr_wr, sh_wi, sh_wl, sh_wr, gl_cp, gr_cp, sh_cp, gl_rw, gr_rw, sh_rw, gi_rl, gr_rl, sh_rl, Option.toList_some, Option.toList_none, List.nil_append, List.cons_append, List.append_nil, Option.some.injEq, Prod.mk.injEq, and_true, true_and, and_self, if_true, if_false, reduceCtorEq, Nat.reduceLeDiff, Nat.reduceLT, Nat.reduceAdd, Nat.reduceEqDiff, false_and, and_false, exists_const, exists_eq_left, exists_eq_left', exists_and_left, and_assoc, nltL, nltR, nleL, nleR, neqL, neqR, naL, naR, nmL, nmR, nI_ltI, nI_leI, nI_eq, nI_add, nI_mul, nI_clamp, n0l, n0r, nm1, nm1', nm1l, nm1r, nm1g, nsL, nI_m1, Nat.add_sub_cancel, vpn, vpL, nclL, le32, leLL, leLN, leNL, leNN, inA, nb0, nb1, gi_wi_n, gi_wi_e, gi_rw_n, gi_rw_e, aWi_rw, ifl, ifl_, ifle, ifle_, ifq, ifq_, ifnq, ifnq_, ifnl, ifnl_, ifnle, ifnle_, z399 ok, r2', m_draw ok (show 1 ≤ M by omega) (show M ≤ 100 by omega) gx3]
      rw [← ey1, em]
      obtain ⟨hA, ehA⟩ : ∃ hA, hA = aWl h3 399 39 y1 := ⟨_, rfl⟩
      rw [← ehA]
      have okA : OK hA := by
        rw [ehA]
        exact ok
      have gA : gl hA 399 39 = y1 := by rw [ehA, gl_wl, if_pos ⟨rfl, rfl⟩]
      have tA : ∀ a k, gi hA a k = gi h3 a k := fun a k => by
        rw [ehA]
        rfl
      have rA : gi hA 413 0 = nI L := by rw [tA, r6']
      have ok := okA
      simp (disch := omega) only [s235_45, s235_46, s235_49, s235_50, s235_52, s235_53, s235_54, s235_55, s235_58, s235_59, s235_60, s235_61, s235_62, s235_65, true_or, or_true, or_false, false_or, or_self, Int32.reduceLT, Int32.reduceLE, Nat.add_zero, Nat.zero_add, Nat.not_lt_zero, not_false_eq_true, not_true_eq_false, and_assoc, kl_q, kl_i, kl_r, kl_n, kl_0, kl_l, cs_0, cs_i, cs_r, cs_n, cs_l, aRf_s, aRf_n, gi_wl, gi_wr, gl_wi, gl_wl, gl_wr, gr_wi, gr_wl, gr_wr, sh_wi, sh_wl, sh_wr, gl_cp, gr_cp, sh_cp, gl_rw, gr_rw, sh_rw, gi_rl, gr_rl, sh_rl, Option.toList_some, Option.toList_none, List.nil_append, List.cons_append, List.append_nil, Option.some.injEq, Prod.mk.injEq, and_true, true_and, and_self, if_true, if_false, reduceCtorEq, Nat.reduceLeDiff, Nat.reduceLT, Nat.reduceAdd, Nat.reduceEqDiff, false_and, and_false, exists_const, exists_eq_left, exists_eq_left', exists_and_left, and_assoc, nltL, nltR, nleL, nleR, neqL, neqR, naL, naR, nmL, nmR, nI_ltI, nI_leI, nI_eq, nI_add, nI_mul, nI_clamp, n0l, n0r, nm1, nm1', nm1l, nm1r, nm1g, nsL, nI_m1, Nat.add_sub_cancel, vpn, vpL, nclL, le32, leLL, leLN, leNL, leNN, inA, nb0, nb1, gi_wi_n, gi_wi_e, gi_rw_n, gi_rw_e, aWi_rw, ifl, ifl_, ifle, ifle_, ifq, ifq_, ifnq, ifnq_, ifnl, ifnl_, ifnle, ifnle_, z399 ok, z413 ok, z416 ok, r399_22 ok, r399_27 ok, rA, m_draw okA (show 1 ≤ L + 1 by omega) (show L + 1 ≤ 100 by omega) gA, m214]
      rw [← ey2]
      obtain ⟨hB, ehB⟩ : ∃ hB, hB = aWi (aWl hA 399 39 y2) 416 m (dr y2 (nI (L + 1))) := ⟨_, rfl⟩
      rw [← ehB]
      have okB : OK hB := by
        rw [ehB]
        exact okA
      have gB : gl hB 399 39 = y2 := by
        rw [ehB]
        show gl (aWl hA 399 39 y2) 399 39 = y2
        rw [gl_wl, if_pos ⟨rfl, rfl⟩]
      have tB : ∀ a k, ¬ a = 416 → gi hB a k = gi h3 a k := fun a k q => by
        rw [ehB, gi_wi_n (by omega), ← tA]
        rfl
      have sB : StM hB (qk k).1.2.2.2.2.2 416 0 (up (qk k).1.1 m (dr y2 (nI (L + 1)))) (qk k).1.2.1 := by
        rw [ehB]
        exact (sm3.eq (fun k _ => tA 416 (0 + k))).w (by omega)
      have ok := okB
      have s30B : gi hB 399 30 = gi g 399 30 := by rw [tB _ _ (by omega), s30]
      simp (disch := omega) only [s235_66, s235_67, s235_69, s235_72, s235_73, s235_76, true_or, or_true, or_false, false_or, or_self, Int32.reduceLT, Int32.reduceLE, Nat.add_zero, Nat.zero_add, Nat.not_lt_zero, not_false_eq_true, not_true_eq_false, and_assoc, kl_q, kl_i, kl_r, kl_n, kl_0, kl_l, cs_0, cs_i, cs_r, cs_n, cs_l, aRf_s, aRf_n, gi_wl, gi_wr, gl_wi, gl_wl, gl_wr, gr_wi, gr_wl, gr_wr, sh_wi, sh_wl, sh_wr, gl_cp, gr_cp, sh_cp, gl_rw, gr_rw, sh_rw, gi_rl, gr_rl, sh_rl, Option.toList_some, Option.toList_none, List.nil_append, List.cons_append, List.append_nil, Option.some.injEq, Prod.mk.injEq, and_true, true_and, and_self, if_true, if_false, reduceCtorEq, Nat.reduceLeDiff, Nat.reduceLT, Nat.reduceAdd, Nat.reduceEqDiff, false_and, and_false, exists_const, exists_eq_left, exists_eq_left', exists_and_left, and_assoc, nltL, nltR, nleL, nleR, neqL, neqR, naL, naR, nmL, nmR, nI_ltI, nI_leI, nI_eq, nI_add, nI_mul, nI_clamp, n0l, n0r, nm1, nm1', nm1l, nm1r, nm1g, nsL, nI_m1, Nat.add_sub_cancel, vpn, vpL, nclL, le32, leLL, leLN, leNL, leNN, inA, nb0, nb1, gi_wi_n, gi_wi_e, gi_rw_n, gi_rw_e, aWi_rw, ifl, ifl_, ifle, ifle_, ifq, ifq_, ifnq, ifnq_, ifnl, ifnl_, ifnle, ifnle_, z399 ok, m_draw10 okB gB, s30B]
      rw [← ey3]
      obtain ⟨hC, ehC⟩ : ∃ hC, hC = aWl hB 399 39 y3 := ⟨_, rfl⟩
      rw [← ehC]
      have okC : OK hC := by
        rw [ehC]
        exact okB
      have gC : gl hC 399 39 = y3 := by rw [ehC, gl_wl, if_pos ⟨rfl, rfl⟩]
      have tC : ∀ a k, gi hC a k = gi hB a k := fun a k => by
        rw [ehC]
        rfl
      by_cases hs : dr y3 10 < gi g 399 30
      · rw [if_neg (Int32.not_le.mpr hs)]
        rw [if_pos hs] at ech
        have ok := okC
        simp (disch := omega) only [s235_79, s235_80, s235_83, s235_85, s235_86, s235_88, s235_91, true_or, or_true, or_false, false_or, or_self, Int32.reduceLT, Int32.reduceLE, Nat.add_zero, Nat.zero_add, Nat.not_lt_zero, not_false_eq_true, not_true_eq_false, and_assoc, kl_q, kl_i, kl_r, kl_n, kl_0, kl_l, cs_0, cs_i, cs_r, cs_n, cs_l, aRf_s, aRf_n, gi_wl, gi_wr, gl_wi, gl_wl, gl_wr, gr_wi, gr_wl, gr_wr, sh_wi, sh_wl, sh_wr, gl_cp, gr_cp, sh_cp, gl_rw, gr_rw, sh_rw, gi_rl, gr_rl, sh_rl, Option.toList_some, Option.toList_none, List.nil_append, List.cons_append, List.append_nil, Option.some.injEq, Prod.mk.injEq, and_true, true_and, and_self, if_true, if_false, reduceCtorEq, Nat.reduceLeDiff, Nat.reduceLT, Nat.reduceAdd, Nat.reduceEqDiff, false_and, and_false, exists_const, exists_eq_left, exists_eq_left', exists_and_left, and_assoc, nltL, nltR, nleL, nleR, neqL, neqR, naL, naR, nmL, nmR, nI_ltI, nI_leI, nI_eq, nI_add, nI_mul, nI_clamp, n0l, n0r, nm1, nm1', nm1l, nm1r, nm1g, nsL, nI_m1, Nat.add_sub_cancel, vpn, vpL, nclL, le32, leLL, leLN, leNL, leNN, inA, nb0, nb1, gi_wi_n, gi_wi_e, gi_rw_n, gi_rw_e, aWi_rw, ifl, ifl_, ifle, ifle_, ifq, ifq_, ifnq, ifnq_, ifnl, ifnl_, ifnle, ifnle_, z399 ok, z416 ok, r399_27 ok, m_draw10 okC gC]
        rw [← ey4]
        refine fin _ y4 okC (fun a k q => ?_) ?_ ?_ (by rw [ech])
        · rw [gi_wi_n (by omega), ← tB a k q, ← tC]
          rfl
        · show gl (aWl hC 399 39 y4) 399 39 = y4
          rw [gl_wl, if_pos ⟨rfl, rfl⟩]
        · rw [ech]
          exact (sB.eq (fun k _ => tC 416 (0 + k))).w (k := 30) (by omega)
      · rw [if_pos (Int32.not_lt.mp hs)]
        rw [if_neg hs] at ech
        refine fin _ y3 okC (fun a k q => by rw [tC, tB a k q]) gC ?_ (by rw [ech])
        rw [ech]
        exact sB.eq (fun k _ => tC 416 (0 + k))
    · rintro lv h' ⟨z, rfl, a2, mr, gx⟩
      have ok := a2.1
      have y32 : gi h' 416 32 = nI (D + n) := by
        rw [rdM mr.1 (by omega), (abk n (Nat.le_refl _)).1.2.2.2.1, ddk]
      rw [s235_25]
      simp (disch := omega) only [s235_0, s235_1, s235_4, s235_7, s235_8, s235_9, s235_12, s235_15, s235_16, s235_17, s235_18, s235_19, s235_22, s235_23, s235_27, s235_28, s235_31, s235_32, s235_35, s235_36, s235_37, s235_40, s235_43, s235_45, s235_46, s235_49, s235_50, s235_52, s235_53, s235_54, s235_55, s235_58, s235_59, s235_60, s235_61, s235_62, s235_65, s235_66, s235_67, s235_69, s235_72, s235_73, s235_76, s235_79, s235_80, s235_83, s235_85, s235_86, s235_88, s235_91, s235_92, s235_93, s235_96, s235_99, s235_102, s235_103, s235_106, s235_108, s235_109, true_or, or_true, or_false, false_or, or_self, Int32.reduceLT, Int32.reduceLE, Nat.add_zero, Nat.zero_add, Nat.not_lt_zero, not_false_eq_true, not_true_eq_false, and_assoc, kl_q, kl_i, kl_r, kl_n, kl_0, kl_l, cs_0, cs_i, cs_r, cs_n, cs_l, aRf_s, aRf_n, gi_wl, gi_wr, gl_wi, gl_wl, gl_wr, gr_wi, gr_wl, gr_wr, sh_wi, sh_wl, sh_wr, gl_cp, gr_cp, sh_cp, gl_rw, gr_rw, sh_rw, gi_rl, gr_rl, sh_rl, Option.toList_some, Option.toList_none, List.nil_append, List.cons_append, List.append_nil, Option.some.injEq, Prod.mk.injEq, and_true, true_and, and_self, if_true, if_false, reduceCtorEq, Nat.reduceLeDiff, Nat.reduceLT, Nat.reduceAdd, Nat.reduceEqDiff, false_and, and_false, exists_const, exists_eq_left, exists_eq_left', exists_and_left, and_assoc, nltL, nltR, nleL, nleR, neqL, neqR, naL, naR, nmL, nmR, nI_ltI, nI_leI, nI_eq, nI_add, nI_mul, nI_clamp, n0l, n0r, nm1, nm1', nm1l, nm1r, nm1g, nsL, nI_m1, Nat.add_sub_cancel, vpn, vpL, nclL, le32, leLL, leLN, leNL, leNN, inA, nb0, nb1, gi_wi_n, gi_wi_e, gi_rw_n, gi_rw_e, aWi_rw, ifl, ifl_, ifle, ifle_, ifq, ifq_, ifnq, ifnq_, ifnl, ifnl_, ifnle, ifnle_, z399 ok, z416 ok, r399_27 ok, Nat.le_refl, y32]
      exact inv_q i a1 a2 cr mr (abk n (Nat.le_refl _))
end Y1
