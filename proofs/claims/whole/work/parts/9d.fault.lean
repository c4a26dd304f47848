-- deps: 9c.rid7
/-! ===== fault; what reading leaves as it is ===== -/
def ActD (B kc km : Nat) (ac am : aV) : Prop := ∀ g d, Inv g → AW (d + B) kc 0 ac [] g (fun v h1 => ∃ X, v = some (.int X) ∧ AW (d + B) km 0 am [] h1 (fun v' h2 => v' = some (.int X) ∧ Inv h2))
def TY (a k : Nat) : Prop := (58 ≤ a ∧ a ≤ 78) ∨ (413 ≤ a ∧ a ≤ 415) ∨ (a = 399 ∧ (k = 25 ∨ k = 26))
def KZ (a k : Nat) : Prop := (375 ≤ a ∧ a ≤ 398) ∨ (401 ≤ a ∧ a ≤ 407) ∨ (a = 32 ∧ (k = 16 ∨ k = 17)) ∨ (a = 399 ∧ (k = 13 ∨ k = 29 ∨ k = 2)) ∨ (a = 33 ∧ k = 1)
def LZ (i a k : Nat) : Prop := (375 + 6 * i ≤ a ∧ a ≤ 378 + 6 * i) ∨ ((a = 401 ∨ a = 402) ∧ 520 * i ≤ k ∧ k < 520 * i + 520) ∨ (a = 404 ∧ k = i) ∨ (405 ≤ a ∧ a ≤ 407 ∧ 140 * i ≤ k ∧ k < 140 * i + 140)
section V1
variable {g h : aM} {M F L W N D c nx n T : Nat} {s : Nat → Int32} {lg ks : Nat → Nat → Int32} {Dk : Nat → Nat}
theorem ITold.ty (it : ITold g M F L W) (t : ∀ a k, TY a k → gi h a k = gi g a k) : ITold h M F L W := by
  obtain ⟨hM, hF, hL, hW, t5, t6, t7, t8, t9, t10, t11, t12, t13, t14, t15, t16⟩ := it
  refine ⟨hM, hF, hL, hW, t5, ?_, ?_, ?_, ?_, ?_, ?_, ?_, ?_, fun k hk => ?_, fun k hk => ?_, fun i j hi hj e => ?_⟩
  · rw [t _ _ (by unfold TY; omega), t6]
  · rw [t _ _ (by unfold TY; omega), t7]
  · rw [t _ _ (by unfold TY; omega), t8]
  · rw [t _ _ (by unfold TY; omega), t9]
  · rw [t _ _ (by unfold TY; omega), t10]
  · rw [t _ _ (by unfold TY; omega), t11]
  · rw [t _ _ (by unfold TY; omega), t12]
  · rw [t _ _ (by unfold TY; omega), t13]
  · rw [t _ _ (by unfold TY; omega), t _ _ (by unfold TY; omega)]
    exact t14 k hk
  · rw [t _ _ (by unfold TY; omega), t _ _ (by unfold TY; omega)]
    exact t15 k hk
  · rw [t _ _ (by unfold TY; omega), t _ _ (by unfold TY; omega)] at e
    exact t16 i j hi hj e
theorem IFirst.ty (i1 : IFirst g M F) (hM : M ≤ 6) (hF : F ≤ 5) (t : ∀ a k, TY a k → gi h a k = gi g a k) : IFirst h M F := by
  obtain ⟨a1, a2, a3, a4, a5, a6⟩ := i1
  refine ⟨fun k hk => ?_, fun k hk => ?_, ?_, ?_, fun h0 => ?_, ?_⟩
  · rw [t _ _ (by unfold TY; omega), t _ _ (by unfold TY; omega), t _ _ (by unfold TY; omega), t _ _ (by unfold TY; omega)]
    exact a1 k hk
  · rw [t _ _ (by unfold TY; omega), t _ _ (by unfold TY; omega)]
    exact a2 k hk
  · rw [t _ _ (by unfold TY; omega), t _ _ (by unfold TY; omega), a3]
  · rw [t _ _ (by unfold TY; omega), t _ _ (by unfold TY; omega), a4]
  · rw [t _ _ (by unfold TY; omega)]
    exact a5 h0
  · rw [t _ _ (by unfold TY; omega)]
    exact a6
theorem tyS_eq {c c' : Nat → Int32} {s0 : List Bool} : ∀ {n : Nat}, (∀ j, j < n → c' j = c j) → tyS c' s0 n = tyS c s0 n
  | 0, _ => rfl
  | n + 1, e => by
    rw [tyS, tyS, tyS_eq (n := n) (fun j hj => e j (by omega)), e n (by omega)]
theorem LwR.lz {i : Nat} (l : LwR g i) (hi : i < 4) (t : ∀ a k, LZ i a k → gi h a k = gi g a k) : LwR h i := by
  obtain ⟨s, c, l1, l2, l3, l4, l5, l6, l7⟩ := l
  refine ⟨s, c, l1, l2, ?_, ?_, ?_, fun p hp => ?_, fun q hq => ?_⟩
  · rw [t _ _ (by unfold LZ; omega), l3]
  · rw [t _ _ (by unfold LZ; omega), l4]
  · rw [t _ _ (by unfold LZ; omega), l5]
  · rw [t (376 + 6 * i) _ (by unfold LZ; omega), t 401 _ (by unfold LZ; omega), t 402 _ (by unfold LZ; omega)]
    exact l6 p hp
  · obtain ⟨a, b, e, q1, q2, q3, q4, q5, q6, q7, q8, q9, q10, q11⟩ := l7 q hq
    refine ⟨a, b, e, q1, q2, q3, ?_, ?_, ?_, ?_, ?_, ?_, ?_, ?_⟩
    · rw [t _ _ (by unfold LZ; omega), q4]
    · rw [t _ _ (by unfold LZ; omega), q5]
    · rw [t _ _ (by unfold LZ; omega), q6]
    · rw [t _ _ (by unfold LZ; omega), q7]
    · rw [t _ _ (by unfold LZ; omega), q8]
    · rw [t _ _ (by unfold LZ; omega)]
      exact q9
    · rw [tyS_eq (c := segC g i a) (c' := segC h i a) (n := b - a) (fun j hj => t _ _ (by unfold LZ; omega))]
      exact q10
    · rw [tyS_eq (c := segC g i b) (c' := segC h i b) (n := e - b) (fun j hj => t _ _ (by unfold LZ; omega))]
      exact q11
theorem ILaw.lz (il : ILaw g N) (t : ∀ i a k, i < N → LZ i a k → gi h a k = gi g a k) (e1 : gi h 32 16 = gi g 32 16) (e2 : gi h 399 13 = gi g 399 13) (e3 : gi h 32 17 = gi g 32 17) (e4 : gi h 399 29 = gi g 399 29) : ILaw h N := by
  obtain ⟨l1, l2, l3, l4, l5, l6⟩ := il
  refine ⟨l1, by rw [e1, l2], by rw [e2, l3], fun i hi => (l4 i hi).lz (by omega) (fun a k z => t i a k hi z), by rw [e3, e4, l5], ?_⟩
  rw [e4]
  exact l6
theorem InvA.lw {N' T' : Nat} (i : InvA g M F L W N D c nx n T s lg ks Dk) (ok : OK h) (t : ∀ a k, ¬ ScrP a k → ¬ KZ a k → gi h a k = gi g a k) (il : ILaw h N') (it : ITape h T') : InvA h M F L W N' D c nx n T' s lg ks Dk := by
  obtain ⟨i1, i2, i3, i4, ⟨i5, i6, i7⟩, ⟨i8, i9⟩, i10, i11, i12, i13, i14, i15, i16⟩ := i
  have ty : ∀ a k, TY a k → gi h a k = gi g a k := fun a k q => t a k (by unfold TY at q; unfold ScrP; omega) (by unfold TY at q; unfold KZ; omega)
  refine ⟨ok, i2.ty ty, i3.ty i2.1 i2.2.1 ty, il, ⟨i5.eq (fun b k hb => t _ _ (nS1 (by omega) (by omega)) (by unfold KZ; omega)), i6.eq (fun a k h1 h2 => t _ _ (nS1 (by omega) (by omega)) (by unfold KZ; omega)), i7.eq (fun w k hw => t _ _ (nS1 (by omega) (by omega)) (by unfold KZ; omega))⟩, ⟨i8.eq (fun k _ => t _ _ (nS3 (by omega)) (by unfold KZ; omega)), i9.eq (t _ _ (by unfold ScrP; omega) (by unfold KZ; omega)) (fun k => t _ _ (nS3 (by omega)) (by unfold KZ; omega))⟩, i10, i11, i12.eq (t _ _ (nS2 (by omega)) (by unfold KZ; omega)) (t _ _ (by unfold ScrP; omega) (by unfold KZ; omega)) (fun a k h1 h2 => t _ _ (nS1 (by omega) (by omega)) (by unfold KZ; omega)) (fun k => t _ _ (nS3 (by omega)) (by unfold KZ; omega)), i13.eq (t _ _ (by unfold ScrP; omega) (by unfold KZ; omega)) (t _ _ (by unfold ScrP; omega) (by unfold KZ; omega)) (fun a k h1 h2 => t _ _ (nS3 (by omega)) (by unfold KZ; omega)) (fun a k h1 h2 => t _ _ (nS3 (by omega)) (by unfold KZ; omega)), it, fun a j h1 h2 => ?_, fun k hk => ?_, ?_⟩
  · rw [t _ _ (nS2 (by omega)) (by unfold KZ; omega)]
    exact i15 a j h1 h2
  · rw [t 371 k (nS3 (by omega)) (by unfold KZ; omega), t 417 k (nS3 (by omega)) (by unfold KZ; omega)]
    exact i16.1 k hk
  · rw [t 32 18 (nS2 (by omega)) (by unfold KZ; omega), t 399 30 (by unfold ScrP; omega) (by unfold KZ; omega)]
    exact i16.2
/-- the tape's bytes -/
def tpB (g : aM) (i : Nat) : Nat := (gi g 400 i).toNatClampNeg
theorem ITape.tp (ok : OK g) (it : ITape g T) : TpC g (tpB g) T ∧ TpM g (tpB g) T := by
  obtain ⟨t1, t2, t3, t4⟩ := it
  have e : ∀ i, i < T → gi g 400 i = nI (tpB g i) ∧ tpB g i < 256 := fun i hi => by
    obtain ⟨-, b, b1, b2, b3⟩ := t4 i hi
    have : tpB g i = b := by
      unfold tpB
      rw [b3, nI_clamp (by omega)]
    rw [this]
    exact ⟨b3, by omega⟩
  exact ⟨⟨ok, t1, t2, fun i hi => by rw [(t4 i hi).1, (e i hi).1], fun i hi => (e i hi).2⟩, ⟨ok, t1, t3, fun i hi => (e i hi).1, fun i hi => (e i hi).2⟩⟩
theorem rx_scr {a k : Nat} (z : RX a k) : ScrP a k := by
  unfold RX AtZ at z
  unfold ScrP
  omega
theorem rm_scr {a k : Nat} (z : RM a k) : ScrP a k := by
  unfold RM AtY at z
  unfold ScrP
  omega
theorem ly_scr {a k : Nat} (z : LY a k) : ScrP a k := by
  unfold LY LX at z
  unfold ScrP
  omega
theorem a_fault (x : Int32) : ActD 110 91 202 [some (.ref 32), some (.int x)] [some (.ref 399), some (.int x)] := by
  intro g d i
  obtain ⟨M, F, L, W, N, D, c, nx, n, T, s, lg, ks, Dk, i⟩ := i
  have ok := i.1
  have it := i.2.2.2.2.2.2.2.2.2.2.1
  have ic := i.2.2.2.2.2.2.2.2.2.2.2.1
  have il := i.2.2.2.1
  obtain ⟨tc, tm⟩ := it.tp ok
  have hT := it.1
  by_cases h0 : x = 0
  · subst h0
    obtain ⟨r, hr⟩ := rdG_ex (B := tpB g) (T := T) 241 0 _ rs0 (Nat.zero_le _) (by omega)
    simp (disch := omega) only [s91_0, s91_1, s91_4, s91_5, s91_8, s91_11, s91_12, s91_13, s91_14, s91_17, s91_18, s91_21, s91_24, s91_27, s91_29, true_or, or_true, or_false, false_or, or_self, Int32.reduceLT, Int32.reduceLE, Nat.add_zero, Nat.zero_add, Nat.not_lt_zero, not_false_eq_true, not_true_eq_false, and_assoc, kl_q, kl_i, kl_r, kl_n, kl_0, kl_l, cs_0, cs_i, cs_r, cs_n, cs_l, aRf_s, aRf_n, gi_wl, gi_wr, gl_wi, gl_wl, gl_wr, gr_wi, gr_wl, gr_wr, sh_wi, sh_wl, sh_wr, gl_cp, gr_cp, sh_cp, gl_rw, gr_rw, sh_rw, gi_rl, gr_rl, sh_rl, Option.toList_some, Option.toList_none, List.nil_append, List.cons_append, List.append_nil, Option.some.injEq, Prod.mk.injEq, and_true, true_and, and_self, if_true, if_false, reduceCtorEq, Nat.reduceLeDiff, Nat.reduceLT, Nat.reduceAdd, Nat.reduceEqDiff, false_and, and_false, exists_const, exists_eq_left, exists_eq_left', exists_and_left, and_assoc, nltL, nltR, nleL, nleR, neqL, neqR, naL, naR, nmL, nmR, nI_ltI, nI_leI, nI_eq, nI_add, nI_mul, nI_clamp, n0l, n0r, nm1, nm1', nm1l, nm1r, nm1g, nsL, nI_m1, Nat.add_sub_cancel, vpn, vpL, nclL, le32, leLL, leLN, leNL, leNN, inA, nb0, nb1, gi_wi_n, gi_wi_e, gi_rw_n, gi_rw_e, aWi_rw, ifl, ifl_, ifle, ifle_, ifq, ifq_, ifnq, ifnq_, ifnl, ifnl_, ifnle, ifnle_, z32 ok, z35 ok, r32_1 ok]
    refine c_readRide (d := d + 101) tc ic hr (fun h1 a1 => ?_)
    have tm1 := tm.ag a1 (by unfold RX AtZ; omega) (by unfold RX AtZ; omega)
    have fin : ∀ X, (∀ h2, Ag RM h1 h2 → PostF (tpB g) T (fun v' h2 => v' = some (.int X) ∧ Inv h2) r h2) → AW (d + 110) 202 0 [some (.ref 399), some (.int 0)] [] h1 (fun v' h2 => v' = some (.int X) ∧ Inv h2) := by
      intro X hX
      have ok := a1.1
      simp (disch := omega) only [s202_0, s202_1, s202_4, s202_5, s202_8, s202_11, s202_12, s202_13, s202_16, s202_17, s202_18, s202_21, s202_24, s202_26, true_or, or_true, or_false, false_or, or_self, Int32.reduceLT, Int32.reduceLE, Nat.add_zero, Nat.zero_add, Nat.not_lt_zero, not_false_eq_true, not_true_eq_false, and_assoc, kl_q, kl_i, kl_r, kl_n, kl_0, kl_l, cs_0, cs_i, cs_r, cs_n, cs_l, aRf_s, aRf_n, gi_wl, gi_wr, gl_wi, gl_wl, gl_wr, gr_wi, gr_wl, gr_wr, sh_wi, sh_wl, sh_wr, gl_cp, gr_cp, sh_cp, gl_rw, gr_rw, sh_rw, gi_rl, gr_rl, sh_rl, Option.toList_some, Option.toList_none, List.nil_append, List.cons_append, List.append_nil, Option.some.injEq, Prod.mk.injEq, and_true, true_and, and_self, if_true, if_false, reduceCtorEq, Nat.reduceLeDiff, Nat.reduceLT, Nat.reduceAdd, Nat.reduceEqDiff, false_and, and_false, exists_const, exists_eq_left, exists_eq_left', exists_and_left, and_assoc, nltL, nltR, nleL, nleR, neqL, neqR, naL, naR, nmL, nmR, nI_ltI, nI_leI, nI_eq, nI_add, nI_mul, nI_clamp, n0l, n0r, nm1, nm1', nm1l, nm1r, nm1g, nsL, nI_m1, Nat.add_sub_cancel, vpn, vpL, nclL, le32, leLL, leLN, leNL, leNN, inA, nb0, nb1, gi_wi_n, gi_wi_e, gi_rw_n, gi_rw_e, aWi_rw, ifl, ifl_, ifle, ifle_, ifq, ifq_, ifnq, ifnq_, ifnl, ifnl_, ifnle, ifnle_, z399 ok]
      refine m_readRide (d := d + 104) tm1 hr (fun h2 a2 => ?_)
      have t := hX h2 a2
      cases r with
      | inl q =>
        have t : some (Value.int (nI q)) = some (.int X) ∧ Inv h2 := t
        show AW _ _ _ _ _ _ _
        simp (disch := omega) only [s202_0, s202_1, s202_4, s202_5, s202_8, s202_11, s202_12, s202_13, s202_16, s202_17, s202_18, s202_21, s202_24, s202_26, true_or, or_true, or_false, false_or, or_self, Int32.reduceLT, Int32.reduceLE, Nat.add_zero, Nat.zero_add, Nat.not_lt_zero, not_false_eq_true, not_true_eq_false, and_assoc, kl_q, kl_i, kl_r, kl_n, kl_0, kl_l, cs_0, cs_i, cs_r, cs_n, cs_l, aRf_s, aRf_n, gi_wl, gi_wr, gl_wi, gl_wl, gl_wr, gr_wi, gr_wl, gr_wr, sh_wi, sh_wl, sh_wr, gl_cp, gr_cp, sh_cp, gl_rw, gr_rw, sh_rw, gi_rl, gr_rl, sh_rl, Option.toList_some, Option.toList_none, List.nil_append, List.cons_append, List.append_nil, Option.some.injEq, Prod.mk.injEq, and_true, true_and, and_self, if_true, if_false, reduceCtorEq, Nat.reduceLeDiff, Nat.reduceLT, Nat.reduceAdd, Nat.reduceEqDiff, false_and, and_false, exists_const, exists_eq_left, exists_eq_left', exists_and_left, and_assoc]
        exact ⟨Option.some.inj t.1, t.2⟩
      | inr s =>
        intro z1 z2 z3
        have t : some (Value.int (-1)) = some (.int X) ∧ Inv h2 := t z1 z2 z3
        simp (disch := omega) only [s202_0, s202_1, s202_4, s202_5, s202_8, s202_11, s202_12, s202_13, s202_16, s202_17, s202_18, s202_21, s202_24, s202_26, true_or, or_true, or_false, false_or, or_self, Int32.reduceLT, Int32.reduceLE, Nat.add_zero, Nat.zero_add, Nat.not_lt_zero, not_false_eq_true, not_true_eq_false, and_assoc, kl_q, kl_i, kl_r, kl_n, kl_0, kl_l, cs_0, cs_i, cs_r, cs_n, cs_l, aRf_s, aRf_n, gi_wl, gi_wr, gl_wi, gl_wl, gl_wr, gr_wi, gr_wl, gr_wr, sh_wi, sh_wl, sh_wr, gl_cp, gr_cp, sh_cp, gl_rw, gr_rw, sh_rw, gi_rl, gr_rl, sh_rl, Option.toList_some, Option.toList_none, List.nil_append, List.cons_append, List.append_nil, Option.some.injEq, Prod.mk.injEq, and_true, true_and, and_self, if_true, if_false, reduceCtorEq, Nat.reduceLeDiff, Nat.reduceLT, Nat.reduceAdd, Nat.reduceEqDiff, false_and, and_false, exists_const, exists_eq_left, exists_eq_left', exists_and_left, and_assoc]
        exact ⟨Option.some.inj t.1, t.2⟩
    have keep : ∀ h2, Ag RM h1 h2 → Inv h2 := fun h2 a2 => ⟨M, F, L, W, N, D, c, nx, n, T, s, lg, ks, Dk, i.same ((a1.mono (fun a k z => rx_scr z)).trans (a2.mono (fun a k z => rm_scr z))).same⟩
    cases r with
    | inl q =>
      show AW _ _ _ _ _ _ _
      simp (disch := omega) only [s91_0, s91_1, s91_4, s91_5, s91_8, s91_11, s91_12, s91_13, s91_14, s91_17, s91_18, s91_21, s91_24, s91_27, s91_29, true_or, or_true, or_false, false_or, or_self, Int32.reduceLT, Int32.reduceLE, Nat.add_zero, Nat.zero_add, Nat.not_lt_zero, not_false_eq_true, not_true_eq_false, and_assoc, kl_q, kl_i, kl_r, kl_n, kl_0, kl_l, cs_0, cs_i, cs_r, cs_n, cs_l, aRf_s, aRf_n, gi_wl, gi_wr, gl_wi, gl_wl, gl_wr, gr_wi, gr_wl, gr_wr, sh_wi, sh_wl, sh_wr, gl_cp, gr_cp, sh_cp, gl_rw, gr_rw, sh_rw, gi_rl, gr_rl, sh_rl, Option.toList_some, Option.toList_none, List.nil_append, List.cons_append, List.append_nil, Option.some.injEq, Prod.mk.injEq, and_true, true_and, and_self, if_true, if_false, reduceCtorEq, Nat.reduceLeDiff, Nat.reduceLT, Nat.reduceAdd, Nat.reduceEqDiff, false_and, and_false, exists_const, exists_eq_left, exists_eq_left', exists_and_left, and_assoc]
      exact ⟨nI q, rfl, fin (nI q) (fun h2 a2 => ⟨rfl, keep h2 a2⟩)⟩
    | inr s =>
      intro z1 z2 z3
      simp (disch := omega) only [s91_0, s91_1, s91_4, s91_5, s91_8, s91_11, s91_12, s91_13, s91_14, s91_17, s91_18, s91_21, s91_24, s91_27, s91_29, true_or, or_true, or_false, false_or, or_self, Int32.reduceLT, Int32.reduceLE, Nat.add_zero, Nat.zero_add, Nat.not_lt_zero, not_false_eq_true, not_true_eq_false, and_assoc, kl_q, kl_i, kl_r, kl_n, kl_0, kl_l, cs_0, cs_i, cs_r, cs_n, cs_l, aRf_s, aRf_n, gi_wl, gi_wr, gl_wi, gl_wl, gl_wr, gr_wi, gr_wl, gr_wr, sh_wi, sh_wl, sh_wr, gl_cp, gr_cp, sh_cp, gl_rw, gr_rw, sh_rw, gi_rl, gr_rl, sh_rl, Option.toList_some, Option.toList_none, List.nil_append, List.cons_append, List.append_nil, Option.some.injEq, Prod.mk.injEq, and_true, true_and, and_self, if_true, if_false, reduceCtorEq, Nat.reduceLeDiff, Nat.reduceLT, Nat.reduceAdd, Nat.reduceEqDiff, false_and, and_false, exists_const, exists_eq_left, exists_eq_left', exists_and_left, and_assoc]
      exact ⟨-1, rfl, fin (-1) (fun h2 a2 _ _ _ => ⟨rfl, keep h2 a2⟩)⟩
  · by_cases h1 : x = 1
    · subst h1
      obtain ⟨r, hr⟩ := lwG_ex (B := tpB g) (T := T) (n := 1500) (by omega) 241 0 [] [] (Nat.zero_le _) (by omega)
      simp (disch := omega) only [s91_0, s91_1, s91_4, s91_5, s91_8, s91_11, s91_12, s91_13, s91_14, s91_17, s91_18, s91_21, s91_24, s91_27, s91_29, true_or, or_true, or_false, false_or, or_self, Int32.reduceLT, Int32.reduceLE, Nat.add_zero, Nat.zero_add, Nat.not_lt_zero, not_false_eq_true, not_true_eq_false, and_assoc, kl_q, kl_i, kl_r, kl_n, kl_0, kl_l, cs_0, cs_i, cs_r, cs_n, cs_l, aRf_s, aRf_n, gi_wl, gi_wr, gl_wi, gl_wl, gl_wr, gr_wi, gr_wl, gr_wr, sh_wi, sh_wl, sh_wr, gl_cp, gr_cp, sh_cp, gl_rw, gr_rw, sh_rw, gi_rl, gr_rl, sh_rl, Option.toList_some, Option.toList_none, List.nil_append, List.cons_append, List.append_nil, Option.some.injEq, Prod.mk.injEq, and_true, true_and, and_self, if_true, if_false, reduceCtorEq, Nat.reduceLeDiff, Nat.reduceLT, Nat.reduceAdd, Nat.reduceEqDiff, false_and, and_false, exists_const, exists_eq_left, exists_eq_left', exists_and_left, and_assoc, nltL, nltR, nleL, nleR, neqL, neqR, naL, naR, nmL, nmR, nI_ltI, nI_leI, nI_eq, nI_add, nI_mul, nI_clamp, n0l, n0r, nm1, nm1', nm1l, nm1r, nm1g, nsL, nI_m1, Nat.add_sub_cancel, vpn, vpL, nclL, le32, leLL, leLN, leNL, leNN, inA, nb0, nb1, gi_wi_n, gi_wi_e, gi_rw_n, gi_rw_e, aWi_rw, ifl, ifl_, ifle, ifle_, ifq, ifq_, ifnq, ifnq_, ifnl, ifnl_, ifnle, ifnle_, z32 ok, z51 ok, r32_2 ok, h0]
      refine c_readLaw (d := d + 8) tc ic hr (fun h1 a1 => ?_)
      have tm1 := tm.ag a1 (by unfold LY LX; omega) (by unfold LY LX; omega)
      have fin : ∀ X, (∀ h2, Ag (MX 4) h1 h2 → PostN (tpB g) T 4 (fun v' h2 => v' = some (.int X) ∧ Inv h2) r h2) → AW (d + 110) 202 0 [some (.ref 399), some (.int 1)] [] h1 (fun v' h2 => v' = some (.int X) ∧ Inv h2) := by
        intro X hX
        have ok := a1.1
        simp (disch := omega) only [s202_0, s202_1, s202_4, s202_5, s202_8, s202_11, s202_12, s202_13, s202_16, s202_17, s202_18, s202_21, s202_24, s202_26, true_or, or_true, or_false, false_or, or_self, Int32.reduceLT, Int32.reduceLE, Nat.add_zero, Nat.zero_add, Nat.not_lt_zero, not_false_eq_true, not_true_eq_false, and_assoc, kl_q, kl_i, kl_r, kl_n, kl_0, kl_l, cs_0, cs_i, cs_r, cs_n, cs_l, aRf_s, aRf_n, gi_wl, gi_wr, gl_wi, gl_wl, gl_wr, gr_wi, gr_wl, gr_wr, sh_wi, sh_wl, sh_wr, gl_cp, gr_cp, sh_cp, gl_rw, gr_rw, sh_rw, gi_rl, gr_rl, sh_rl, Option.toList_some, Option.toList_none, List.nil_append, List.cons_append, List.append_nil, Option.some.injEq, Prod.mk.injEq, and_true, true_and, and_self, if_true, if_false, reduceCtorEq, Nat.reduceLeDiff, Nat.reduceLT, Nat.reduceAdd, Nat.reduceEqDiff, false_and, and_false, exists_const, exists_eq_left, exists_eq_left', exists_and_left, and_assoc, nltL, nltR, nleL, nleR, neqL, neqR, naL, naR, nmL, nmR, nI_ltI, nI_leI, nI_eq, nI_add, nI_mul, nI_clamp, n0l, n0r, nm1, nm1', nm1l, nm1r, nm1g, nsL, nI_m1, Nat.add_sub_cancel, vpn, vpL, nclL, le32, leLL, leLN, leNL, leNN, inA, nb0, nb1, gi_wi_n, gi_wi_e, gi_rw_n, gi_rw_e, aWi_rw, ifl, ifl_, ifle, ifle_, ifq, ifq_, ifnq, ifnq_, ifnl, ifnl_, ifnle, ifnle_, z399 ok, h0]
        refine m_readLaw (d := d + 11) (f := 240) (sl := 4) tm1 (by omega) hr (fun h2 a2 => ?_)
        have t := hX h2 a2
        cases r with
        | inl q =>
          have t : some (Value.int (nI q)) = some (.int X) ∧ Inv h2 := t
          show AW _ _ _ _ _ _ _
          simp (disch := omega) only [s202_0, s202_1, s202_4, s202_5, s202_8, s202_11, s202_12, s202_13, s202_16, s202_17, s202_18, s202_21, s202_24, s202_26, true_or, or_true, or_false, false_or, or_self, Int32.reduceLT, Int32.reduceLE, Nat.add_zero, Nat.zero_add, Nat.not_lt_zero, not_false_eq_true, not_true_eq_false, and_assoc, kl_q, kl_i, kl_r, kl_n, kl_0, kl_l, cs_0, cs_i, cs_r, cs_n, cs_l, aRf_s, aRf_n, gi_wl, gi_wr, gl_wi, gl_wl, gl_wr, gr_wi, gr_wl, gr_wr, sh_wi, sh_wl, sh_wr, gl_cp, gr_cp, sh_cp, gl_rw, gr_rw, sh_rw, gi_rl, gr_rl, sh_rl, Option.toList_some, Option.toList_none, List.nil_append, List.cons_append, List.append_nil, Option.some.injEq, Prod.mk.injEq, and_true, true_and, and_self, if_true, if_false, reduceCtorEq, Nat.reduceLeDiff, Nat.reduceLT, Nat.reduceAdd, Nat.reduceEqDiff, false_and, and_false, exists_const, exists_eq_left, exists_eq_left', exists_and_left, and_assoc]
          exact ⟨Option.some.inj t.1, t.2⟩
        | inr x =>
          obtain ⟨ts, cs⟩ := x
          intro z1 z2
          have t : some (Value.int (-1)) = some (.int X) ∧ Inv h2 := t z1 z2
          simp (disch := omega) only [s202_0, s202_1, s202_4, s202_5, s202_8, s202_11, s202_12, s202_13, s202_16, s202_17, s202_18, s202_21, s202_24, s202_26, true_or, or_true, or_false, false_or, or_self, Int32.reduceLT, Int32.reduceLE, Nat.add_zero, Nat.zero_add, Nat.not_lt_zero, not_false_eq_true, not_true_eq_false, and_assoc, kl_q, kl_i, kl_r, kl_n, kl_0, kl_l, cs_0, cs_i, cs_r, cs_n, cs_l, aRf_s, aRf_n, gi_wl, gi_wr, gl_wi, gl_wl, gl_wr, gr_wi, gr_wl, gr_wr, sh_wi, sh_wl, sh_wr, gl_cp, gr_cp, sh_cp, gl_rw, gr_rw, sh_rw, gi_rl, gr_rl, sh_rl, Option.toList_some, Option.toList_none, List.nil_append, List.cons_append, List.append_nil, Option.some.injEq, Prod.mk.injEq, and_true, true_and, and_self, if_true, if_false, reduceCtorEq, Nat.reduceLeDiff, Nat.reduceLT, Nat.reduceAdd, Nat.reduceEqDiff, false_and, and_false, exists_const, exists_eq_left, exists_eq_left', exists_and_left, and_assoc]
          exact ⟨Option.some.inj t.1, t.2⟩
      have keep : ∀ h2, Ag (MX 4) h1 h2 → Inv h2 := fun h2 a2 => by
        have t : ∀ a k, ¬ ScrP a k → ¬ MX 4 a k → gi h2 a k = gi g a k := fun a k z1 z2 => by rw [a2.2 _ _ z2, a1.2 _ _ (fun z => z1 (ly_scr z))]
        have hN := il.1
        refine ⟨M, F, L, W, N, D, c, nx, n, T, s, lg, ks, Dk, i.lw a2.1 (fun a k z1 z2 => t a k z1 (by unfold KZ at z2; unfold ScrP at z1; unfold MX MY ML; omega)) (il.lz (fun j a k hj z => t a k (by unfold LZ at z; unfold ScrP; omega) (by unfold LZ at z; unfold MX MY ML; omega)) ?_ ?_ ?_ ?_) (it.eq ?_ ?_ (fun k => ?_) (fun k => ?_))⟩
        all_goals exact t _ _ (by unfold ScrP; omega) (by unfold MX MY ML; omega)
      cases r with
      | inl q =>
        show AW _ _ _ _ _ _ _
        simp (disch := omega) only [s91_0, s91_1, s91_4, s91_5, s91_8, s91_11, s91_12, s91_13, s91_14, s91_17, s91_18, s91_21, s91_24, s91_27, s91_29, true_or, or_true, or_false, false_or, or_self, Int32.reduceLT, Int32.reduceLE, Nat.add_zero, Nat.zero_add, Nat.not_lt_zero, not_false_eq_true, not_true_eq_false, and_assoc, kl_q, kl_i, kl_r, kl_n, kl_0, kl_l, cs_0, cs_i, cs_r, cs_n, cs_l, aRf_s, aRf_n, gi_wl, gi_wr, gl_wi, gl_wl, gl_wr, gr_wi, gr_wl, gr_wr, sh_wi, sh_wl, sh_wr, gl_cp, gr_cp, sh_cp, gl_rw, gr_rw, sh_rw, gi_rl, gr_rl, sh_rl, Option.toList_some, Option.toList_none, List.nil_append, List.cons_append, List.append_nil, Option.some.injEq, Prod.mk.injEq, and_true, true_and, and_self, if_true, if_false, reduceCtorEq, Nat.reduceLeDiff, Nat.reduceLT, Nat.reduceAdd, Nat.reduceEqDiff, false_and, and_false, exists_const, exists_eq_left, exists_eq_left', exists_and_left, and_assoc]
        exact ⟨nI q, rfl, fin (nI q) (fun h2 a2 => ⟨rfl, keep h2 a2⟩)⟩
      | inr x =>
        obtain ⟨ts, cs⟩ := x
        intro z1 z2
        simp (disch := omega) only [s91_0, s91_1, s91_4, s91_5, s91_8, s91_11, s91_12, s91_13, s91_14, s91_17, s91_18, s91_21, s91_24, s91_27, s91_29, true_or, or_true, or_false, false_or, or_self, Int32.reduceLT, Int32.reduceLE, Nat.add_zero, Nat.zero_add, Nat.not_lt_zero, not_false_eq_true, not_true_eq_false, and_assoc, kl_q, kl_i, kl_r, kl_n, kl_0, kl_l, cs_0, cs_i, cs_r, cs_n, cs_l, aRf_s, aRf_n, gi_wl, gi_wr, gl_wi, gl_wl, gl_wr, gr_wi, gr_wl, gr_wr, sh_wi, sh_wl, sh_wr, gl_cp, gr_cp, sh_cp, gl_rw, gr_rw, sh_rw, gi_rl, gr_rl, sh_rl, Option.toList_some, Option.toList_none, List.nil_append, List.cons_append, List.append_nil, Option.some.injEq, Prod.mk.injEq, and_true, true_and, and_self, if_true, if_false, reduceCtorEq, Nat.reduceLeDiff, Nat.reduceLT, Nat.reduceAdd, Nat.reduceEqDiff, false_and, and_false, exists_const, exists_eq_left, exists_eq_left', exists_and_left, and_assoc]
        exact ⟨-1, rfl, fin (-1) (fun h2 a2 _ _ => ⟨rfl, keep h2 a2⟩)⟩
    · simp (disch := omega) only [s91_0, s91_1, s91_4, s91_5, s91_8, s91_11, s91_12, s91_13, s91_14, s91_17, s91_18, s91_21, s91_24, s91_27, s91_29, true_or, or_true, or_false, false_or, or_self, Int32.reduceLT, Int32.reduceLE, Nat.add_zero, Nat.zero_add, Nat.not_lt_zero, not_false_eq_true, not_true_eq_false, and_assoc, kl_q, kl_i, kl_r, kl_n, kl_0, kl_l, cs_0, cs_i, cs_r, cs_n, cs_l, aRf_s, aRf_n, gi_wl, gi_wr, gl_wi, gl_wl, gl_wr, gr_wi, gr_wl, gr_wr, sh_wi, sh_wl, sh_wr, gl_cp, gr_cp, sh_cp, gl_rw, gr_rw, sh_rw, gi_rl, gr_rl, sh_rl, Option.toList_some, Option.toList_none, List.nil_append, List.cons_append, List.append_nil, Option.some.injEq, Prod.mk.injEq, and_true, true_and, and_self, if_true, if_false, reduceCtorEq, Nat.reduceLeDiff, Nat.reduceLT, Nat.reduceAdd, Nat.reduceEqDiff, false_and, and_false, exists_const, exists_eq_left, exists_eq_left', exists_and_left, and_assoc, nltL, nltR, nleL, nleR, neqL, neqR, naL, naR, nmL, nmR, nI_ltI, nI_leI, nI_eq, nI_add, nI_mul, nI_clamp, n0l, n0r, nm1, nm1', nm1l, nm1r, nm1g, nsL, nI_m1, Nat.add_sub_cancel, vpn, vpL, nclL, le32, leLL, leLN, leNL, leNN, inA, nb0, nb1, gi_wi_n, gi_wi_e, gi_rw_n, gi_rw_e, aWi_rw, ifl, ifl_, ifle, ifle_, ifq, ifq_, ifnq, ifnq_, ifnl, ifnl_, ifnle, ifnle_, h0, h1]
      refine ⟨-2, rfl, ?_⟩
      simp (disch := omega) only [s202_0, s202_1, s202_4, s202_5, s202_8, s202_11, s202_12, s202_13, s202_16, s202_17, s202_18, s202_21, s202_24, s202_26, true_or, or_true, or_false, false_or, or_self, Int32.reduceLT, Int32.reduceLE, Nat.add_zero, Nat.zero_add, Nat.not_lt_zero, not_false_eq_true, not_true_eq_false, and_assoc, kl_q, kl_i, kl_r, kl_n, kl_0, kl_l, cs_0, cs_i, cs_r, cs_n, cs_l, aRf_s, aRf_n, gi_wl, gi_wr, gl_wi, gl_wl, gl_wr, gr_wi, gr_wl, gr_wr, sh_wi, sh_wl, sh_wr, gl_cp, gr_cp, sh_cp, gl_rw, gr_rw, sh_rw, gi_rl, gr_rl, sh_rl, Option.toList_some, Option.toList_none, List.nil_append, List.cons_append, List.append_nil, Option.some.injEq, Prod.mk.injEq, and_true, true_and, and_self, if_true, if_false, reduceCtorEq, Nat.reduceLeDiff, Nat.reduceLT, Nat.reduceAdd, Nat.reduceEqDiff, false_and, and_false, exists_const, exists_eq_left, exists_eq_left', exists_and_left, and_assoc, nltL, nltR, nleL, nleR, neqL, neqR, naL, naR, nmL, nmR, nI_ltI, nI_leI, nI_eq, nI_add, nI_mul, nI_clamp, n0l, n0r, nm1, nm1', nm1l, nm1r, nm1g, nsL, nI_m1, Nat.add_sub_cancel, vpn, vpL, nclL, le32, leLL, leLN, leNL, leNN, inA, nb0, nb1, gi_wi_n, gi_wi_e, gi_rw_n, gi_rw_e, aWi_rw, ifl, ifl_, ifle, ifle_, ifq, ifq_, ifnq, ifnq_, ifnl, ifnl_, ifnle, ifnle_, h0, h1]
      first
        | exact ⟨M, F, L, W, N, D, c, nx, n, T, s, lg, ks, Dk, i⟩
        | exact ⟨rfl, M, F, L, W, N, D, c, nx, n, T, s, lg, ks, Dk, i⟩
end V1
