-- deps: 62.ops8
/-! ===== feeding ===== -/
def bt (w : Int32) (s : Nat) : Int32 := (w >>> (nI s &&& 31)) &&& 255
theorem b255 (i : Nat) : (255#32).getLsbD i = decide (i < 8) := by
  show (2 ^ 8 - 1).testBit i = _
  exact Nat.testBit_two_pow_sub_one 8 i
theorem bvs (x : BitVec 32) (s : Nat) (hs : s ≤ 24) : x >>> s &&& 255#32 = x.sshiftRight s &&& 255#32 := by
  apply BitVec.eq_of_getLsbD_eq
  intro i hi
  rw [BitVec.getLsbD_and, BitVec.getLsbD_and, b255, BitVec.getLsbD_ushiftRight, BitVec.getLsbD_sshiftRight]
  by_cases h8 : i < 8
  · have h1 : s + i < 32 := by omega
    have h2 : ¬ 32 ≤ i := by omega
    simp [h1, h2]
  · simp [h8]
theorem bt_u {w : Int32} {s : Nat} (h : s = 24 ∨ s = 16 ∨ s = 8 ∨ s = 0) : (w.toUInt32 >>> ((nI s).toUInt32 &&& Int32.toUInt32 31)).toInt32 &&& 255 = bt w s := by
  rcases h with rfl | rfl | rfl | rfl
  · exact Int32.toBitVec_inj.mp (bvs w.toBitVec 24 (by omega))
  · exact Int32.toBitVec_inj.mp (bvs w.toBitVec 16 (by omega))
  · exact Int32.toBitVec_inj.mp (bvs w.toBitVec 8 (by omega))
  · exact Int32.toBitVec_inj.mp (bvs w.toBitVec 0 (by omega))
theorem bt_b (w : Int32) (s : Nat) : ∃ b, b ≤ 255 ∧ bt w s = nI b := by
  have h1 : (bt w s).toBitVec = (w >>> (nI s &&& 31)).toBitVec &&& 255#32 := rfl
  have h2 : (bt w s).toBitVec.toNat ≤ 255 := by
    rw [h1, BitVec.toNat_and]
    exact Nat.and_le_right
  refine ⟨(bt w s).toBitVec.toNat, h2, ?_⟩
  apply Int32.toBitVec_inj.mp
  apply BitVec.eq_of_toNat_eq
  show _ = (BitVec.ofNat 32 _).toNat
  rw [BitVec.toNat_ofNat]
  omega
/-- how many of the first k are bytes, not 0 -/
def nzc (B : Nat → Int32) : Nat → Nat
  | 0 => 0
  | k + 1 => if B k = 0 then nzc B k else nzc B k + 1
theorem nzc_le (B : Nat → Int32) : ∀ k, nzc B k ≤ k
  | 0 => Nat.le_refl _
  | k + 1 => by
    have := nzc_le B k
    rw [nzc]
    split <;> omega
theorem nzc_mono (B : Nat → Int32) (k : Nat) : ∀ r, nzc B k ≤ nzc B (k + r)
  | 0 => Nat.le_refl _
  | r + 1 => by
    have := nzc_mono B k r
    rw [← Nat.add_assoc, nzc]
    split <;> omega
theorem nzc_ex (B : Nat → Int32) : ∀ k p, p < nzc B k → ∃ i, i < k ∧ ¬ B i = 0 ∧ nzc B i = p
  | 0, p, h => by
    rw [nzc] at h
    omega
  | k + 1, p, h => by
    rw [nzc] at h
    split at h
    · obtain ⟨i, i1, i2, i3⟩ := nzc_ex B k p h
      exact ⟨i, by omega, i2, i3⟩
    · next hb =>
      by_cases hp : p = nzc B k
      · exact ⟨k, by omega, hb, hp.symm⟩
      · obtain ⟨i, i1, i2, i3⟩ := nzc_ex B k p (by omega)
        exact ⟨i, by omega, i2, i3⟩
def sfI (j : Nat) : Int32 := if j < 4 then nI (24 - 8 * j) else -8
theorem sfI_s {j : Nat} (h : j < 4) : nI (24 - 8 * j) + (-8) = sfI (j + 1) := by
  have : j = 0 ∨ j = 1 ∨ j = 2 ∨ j = 3 := by omega
  rcases this with rfl | rfl | rfl | rfl <;> rfl
section F1
variable {d : Nat} {g h : aM} {Q : Option Value → aM → Prop}
theorem c_bytesIn {w : Int32} (hq : Q (some (.int (nI (nzc (fun j => bt w (24 - 8 * j)) 4)))) h) : AW d 71 0 [some (.int w), none, none] [] h Q := by
  simp (disch := omega) only [s71_0, s71_1, s71_2, s71_4, s71_6, s71_9, s71_10, s71_11, s71_12, s71_15, s71_16, s71_19, s71_22, s71_25, s71_28, s71_29, true_or, or_true, or_false, false_or, or_self, Int32.reduceLT, Int32.reduceLE, Nat.add_zero, Nat.zero_add, Nat.not_lt_zero, not_false_eq_true, not_true_eq_false, and_assoc, kl_q, kl_i, kl_r, kl_n, kl_0, kl_l, cs_0, cs_i, cs_r, cs_n, cs_l, aRf_s, aRf_n, gi_wl, gi_wr, gl_wi, gl_wl, gl_wr, gr_wi, gr_wl, gr_wr, sh_wi, sh_wl, sh_wr, gl_cp, gr_cp, sh_cp, gl_rw, gr_rw, sh_rw, gi_rl, gr_rl, sh_rl, Option.toList_some, Option.toList_none, List.nil_append, List.cons_append, List.append_nil, Option.some.injEq, Prod.mk.injEq, and_true, true_and, and_self, if_true, if_false, reduceCtorEq, Nat.reduceLeDiff, Nat.reduceLT, Nat.reduceAdd, Nat.reduceEqDiff, false_and, and_false, exists_const, exists_eq_left, exists_eq_left', exists_and_left, and_assoc, nltL, nltR, nleL, nleR, neqL, neqR, naL, naR, nmL, nmR, nI_ltI, nI_leI, nI_eq, nI_add, nI_mul, nI_clamp, n0l, n0r, nm1, nm1', nm1l, nm1r, nm1g, nsL, nI_m1, Nat.add_sub_cancel, vpn, vpL, nclL, le32, leLL, leLN, leNL, leNN, inA, nb0, nb1, gi_wi_n, gi_wi_e, gi_rw_n, gi_rw_e, aWi_rw, ifl, ifl_, ifle, ifle_, ifq, ifq_, ifnq, ifnq_, ifnl, ifnl_, ifnle, ifnle_]
  refine aLoop 4 (fun j lv h' => lv = [some (.int w), some (.int (nI (nzc (fun j => bt w (24 - 8 * j)) j))), some (.int (sfI j))] ∧ h' = h) ?_ ?_ 0 _ _ (Nat.zero_le _) ⟨rfl, rfl⟩
  · rintro j lv h' hj ⟨rfl, rfl⟩ hk
    have hk' := hk _ _ ⟨rfl, rfl⟩
    rw [nzc] at hk'
    have e1 : sfI j = nI (24 - 8 * j) := if_pos hj
    have e2 := bt_u (w := w) (s := 24 - 8 * j) (by omega)
    rw [s71_5, e1]
    simp (disch := omega) only [s71_0, s71_1, s71_2, s71_4, s71_6, s71_9, s71_10, s71_11, s71_12, s71_15, s71_16, s71_19, s71_22, s71_25, s71_28, s71_29, true_or, or_true, or_false, false_or, or_self, Int32.reduceLT, Int32.reduceLE, Nat.add_zero, Nat.zero_add, Nat.not_lt_zero, not_false_eq_true, not_true_eq_false, and_assoc, kl_q, kl_i, kl_r, kl_n, kl_0, kl_l, cs_0, cs_i, cs_r, cs_n, cs_l, aRf_s, aRf_n, gi_wl, gi_wr, gl_wi, gl_wl, gl_wr, gr_wi, gr_wl, gr_wr, sh_wi, sh_wl, sh_wr, gl_cp, gr_cp, sh_cp, gl_rw, gr_rw, sh_rw, gi_rl, gr_rl, sh_rl, Option.toList_some, Option.toList_none, List.nil_append, List.cons_append, List.append_nil, Option.some.injEq, Prod.mk.injEq, and_true, true_and, and_self, if_true, if_false, reduceCtorEq, Nat.reduceLeDiff, Nat.reduceLT, Nat.reduceAdd, Nat.reduceEqDiff, false_and, and_false, exists_const, exists_eq_left, exists_eq_left', exists_and_left, and_assoc, nltL, nltR, nleL, nleR, neqL, neqR, naL, naR, nmL, nmR, nI_ltI, nI_leI, nI_eq, nI_add, nI_mul, nI_clamp, n0l, n0r, nm1, nm1', nm1l, nm1r, nm1g, nsL, nI_m1, Nat.add_sub_cancel, vpn, vpL, nclL, le32, leLL, leLN, leNL, leNN, inA, nb0, nb1, gi_wi_n, gi_wi_e, gi_rw_n, gi_rw_e, aWi_rw, ifl, ifl_, ifle, ifle_, ifq, ifq_, ifnq, ifnq_, ifnl, ifnl_, ifnle, ifnle_, e2, sfI_s hj]
    by_cases h0 : bt w (24 - 8 * j) = 0
    · rw [if_pos h0]
      rw [if_pos h0] at hk'
      exact hk'
    · rw [if_neg h0]
      rw [if_neg h0] at hk'
      exact hk'
  · rintro lv h' ⟨rfl, rfl⟩
    rw [s71_5, show sfI 4 = -8 from rfl]
    simp (disch := omega) only [s71_0, s71_1, s71_2, s71_4, s71_6, s71_9, s71_10, s71_11, s71_12, s71_15, s71_16, s71_19, s71_22, s71_25, s71_28, s71_29, true_or, or_true, or_false, false_or, or_self, Int32.reduceLT, Int32.reduceLE, Nat.add_zero, Nat.zero_add, Nat.not_lt_zero, not_false_eq_true, not_true_eq_false, and_assoc, kl_q, kl_i, kl_r, kl_n, kl_0, kl_l, cs_0, cs_i, cs_r, cs_n, cs_l, aRf_s, aRf_n, gi_wl, gi_wr, gl_wi, gl_wl, gl_wr, gr_wi, gr_wl, gr_wr, sh_wi, sh_wl, sh_wr, gl_cp, gr_cp, sh_cp, gl_rw, gr_rw, sh_rw, gi_rl, gr_rl, sh_rl, Option.toList_some, Option.toList_none, List.nil_append, List.cons_append, List.append_nil, Option.some.injEq, Prod.mk.injEq, and_true, true_and, and_self, if_true, if_false, reduceCtorEq, Nat.reduceLeDiff, Nat.reduceLT, Nat.reduceAdd, Nat.reduceEqDiff, false_and, and_false, exists_const, exists_eq_left, exists_eq_left', exists_and_left, and_assoc, nltL, nltR, nleL, nleR, neqL, neqR, naL, naR, nmL, nmR, nI_ltI, nI_leI, nI_eq, nI_add, nI_mul, nI_clamp, n0l, n0r, nm1, nm1', nm1l, nm1r, nm1g, nsL, nI_m1, Nat.add_sub_cancel, vpn, vpL, nclL, le32, leLL, leLN, leNL, leNN, inA, nb0, nb1, gi_wi_n, gi_wi_e, gi_rw_n, gi_rw_e, aWi_rw, ifl, ifl_, ifle, ifle_, ifq, ifq_, ifnq, ifnq_, ifnl, ifnl_, ifnle, ifnle_]
    exact hq
/-- a TAPE at S (its row A), after k of the bytes B -/
def Fed (h0 h : aM) (S f A T k : Nat) (B : Nat → Int32) : Prop := OK h ∧ (∀ a j, ¬ (a = S ∧ j = f) → ¬ a = A → gi h a j = gi h0 a j) ∧ gi h S f = nI (T + nzc B k) ∧ (∀ p, p < T → gi h A p = gi h0 A p) ∧ ∀ i, i < k → ¬ B i = 0 → gi h A (T + nzc B i) = B i
theorem Fed.z {h0 h : aM} {S f A T k : Nat} {B : Nat → Int32} (fd : Fed h0 h S f A T k B) (h1 : B k = 0) : Fed h0 h S f A T (k + 1) B := by
  obtain ⟨f1, f2, f3, f4, f5⟩ := fd
  refine ⟨f1, f2, by rw [nzc, if_pos h1, f3], f4, fun i hi hb => ?_⟩
  by_cases e : i = k
  · subst e
    exact absurd h1 hb
  · exact f5 i (by omega) hb
theorem Fed.w {h0 h : aM} {S f A T k : Nat} {B : Nat → Int32} (fd : Fed h0 h S f A T k B) (hSA : ¬ S = A) (h1 : ¬ B k = 0) : Fed h0 (aWi (aWi h A (T + nzc B k) (B k)) S f (nI (T + nzc B k + 1))) S f A T (k + 1) B := by
  obtain ⟨f1, f2, f3, f4, f5⟩ := fd
  refine ⟨f1, fun a j q1 q2 => ?_, ?_, fun p hp => ?_, fun i hi hb => ?_⟩
  · rw [gi_wi_n q1, gi_wi_n (fun z => q2 z.1), f2 a j q1 q2]
  · rw [gi_wi_e, nzc, if_neg h1]
    rfl
  · rw [gi_wi_n (fun z => hSA z.1.symm), gi_wi_n (by omega), f4 p hp]
  · rw [gi_wi_n (fun z => hSA z.1.symm)]
    by_cases e : i = k
    · subst e
      rw [gi_wi_e]
    · have : nzc B i < nzc B k := by
        have h2 := nzc_mono B (i + 1) (k - (i + 1))
        rw [show i + 1 + (k - (i + 1)) = k by omega, nzc, if_neg hb] at h2
        omega
      rw [gi_wi_n (by omega), f5 i (by omega) hb]
theorem c_append {h0 h : aM} {T k : Nat} {w : Int32} {B : Nat → Int32} (hB : ∀ j, j < 4 → B (k + j) = bt w (24 - 8 * j)) (fd : Fed h0 h 33 1 34 T k B) (hT : T + nzc B (k + 4) ≤ 240) (hq : ∀ h', Fed h0 h' 33 1 34 T (k + 4) B → Q none h') : AW d 73 0 [some (.ref 33), some (.int w), none, none] [] h Q := by
  simp (disch := omega) only [s73_0, s73_2, s73_4, s73_7, s73_8, s73_9, s73_10, s73_13, s73_14, s73_15, s73_16, s73_19, s73_20, s73_23, s73_26, s73_29, s73_30, s73_33, s73_34, s73_37, s73_38, s73_39, s73_40, s73_40i, s73_41, s73_44, s73_45, s73_46, s73_49, s73_52, s73_55, true_or, or_true, or_false, false_or, or_self, Int32.reduceLT, Int32.reduceLE, Nat.add_zero, Nat.zero_add, Nat.not_lt_zero, not_false_eq_true, not_true_eq_false, and_assoc, kl_q, kl_i, kl_r, kl_n, kl_0, kl_l, cs_0, cs_i, cs_r, cs_n, cs_l, aRf_s, aRf_n, gi_wl, gi_wr, gl_wi, gl_wl, gl_wr, gr_wi, gr_wl, gr_wr, sh_wi, sh_wl, sh_wr, gl_cp, gr_cp, sh_cp, gl_rw, gr_rw, sh_rw, gi_rl, gr_rl, sh_rl, Option.toList_some, Option.toList_none, List.nil_append, List.cons_append, List.append_nil, Option.some.injEq, Prod.mk.injEq, and_true, true_and, and_self, if_true, if_false, reduceCtorEq, Nat.reduceLeDiff, Nat.reduceLT, Nat.reduceAdd, Nat.reduceEqDiff, false_and, and_false, exists_const, exists_eq_left, exists_eq_left', exists_and_left, and_assoc, nltL, nltR, nleL, nleR, neqL, neqR, naL, naR, nmL, nmR, nI_ltI, nI_leI, nI_eq, nI_add, nI_mul, nI_clamp, n0l, n0r, nm1, nm1', nm1l, nm1r, nm1g, nsL, nI_m1, Nat.add_sub_cancel, vpn, vpL, nclL, le32, leLL, leLN, leNL, leNN, inA, nb0, nb1, gi_wi_n, gi_wi_e, gi_rw_n, gi_rw_e, aWi_rw, ifl, ifl_, ifle, ifle_, ifq, ifq_, ifnq, ifnq_, ifnl, ifnl_, ifnle, ifnle_]
  refine aLoop 4 (fun j lv h' => ∃ z, lv = [some (.ref 33), some (.int w), some (.int (sfI j)), z] ∧ Fed h0 h' 33 1 34 T (k + j) B) ?_ ?_ 0 _ _ (Nat.zero_le _) ⟨_, rfl, fd⟩
  · rintro j lv h' hj ⟨z, rfl, f1⟩ hk
    have e1 : sfI j = nI (24 - 8 * j) := if_pos hj
    have e2 := bt_u (w := w) (s := 24 - 8 * j) (by omega)
    have ok := f1.1
    have e3 := f1.2.2.1
    have e4 := nzc_mono B (k + j + 1) (4 - (j + 1))
    rw [show k + j + 1 + (4 - (j + 1)) = k + 4 by omega, nzc] at e4
    rw [s73_3, e1]
    by_cases h0' : bt w (24 - 8 * j) = 0
    · simp (disch := omega) only [s73_0, s73_2, s73_4, s73_7, s73_8, s73_9, s73_10, s73_13, s73_14, s73_15, s73_16, s73_19, s73_20, s73_23, s73_26, s73_29, s73_30, s73_33, s73_34, s73_37, s73_38, s73_39, s73_40, s73_40i, s73_41, s73_44, s73_45, s73_46, s73_49, s73_52, s73_55, true_or, or_true, or_false, false_or, or_self, Int32.reduceLT, Int32.reduceLE, Nat.add_zero, Nat.zero_add, Nat.not_lt_zero, not_false_eq_true, not_true_eq_false, and_assoc, kl_q, kl_i, kl_r, kl_n, kl_0, kl_l, cs_0, cs_i, cs_r, cs_n, cs_l, aRf_s, aRf_n, gi_wl, gi_wr, gl_wi, gl_wl, gl_wr, gr_wi, gr_wl, gr_wr, sh_wi, sh_wl, sh_wr, gl_cp, gr_cp, sh_cp, gl_rw, gr_rw, sh_rw, gi_rl, gr_rl, sh_rl, Option.toList_some, Option.toList_none, List.nil_append, List.cons_append, List.append_nil, Option.some.injEq, Prod.mk.injEq, and_true, true_and, and_self, if_true, if_false, reduceCtorEq, Nat.reduceLeDiff, Nat.reduceLT, Nat.reduceAdd, Nat.reduceEqDiff, false_and, and_false, exists_const, exists_eq_left, exists_eq_left', exists_and_left, and_assoc, nltL, nltR, nleL, nleR, neqL, neqR, naL, naR, nmL, nmR, nI_ltI, nI_leI, nI_eq, nI_add, nI_mul, nI_clamp, n0l, n0r, nm1, nm1', nm1l, nm1r, nm1g, nsL, nI_m1, Nat.add_sub_cancel, vpn, vpL, nclL, le32, leLL, leLN, leNL, leNN, inA, nb0, nb1, gi_wi_n, gi_wi_e, gi_rw_n, gi_rw_e, aWi_rw, ifl, ifl_, ifle, ifle_, ifq, ifq_, ifnq, ifnq_, ifnl, ifnl_, ifnle, ifnle_, e2, h0', sfI_s hj]
      exact hk _ _ ⟨_, rfl, f1.z (by rw [hB j hj, h0'])⟩
    · rw [if_neg (by rw [hB j hj]; exact h0')] at e4
      have i1 : T + nzc B (k + j) < 240 := by omega
      have i2 : ¬ 240 ≤ T + nzc B (k + j) := by omega
      simp (disch := omega) only [s73_0, s73_2, s73_4, s73_7, s73_8, s73_9, s73_10, s73_13, s73_14, s73_15, s73_16, s73_19, s73_20, s73_23, s73_26, s73_29, s73_30, s73_33, s73_34, s73_37, s73_38, s73_39, s73_40, s73_40i, s73_41, s73_44, s73_45, s73_46, s73_49, s73_52, s73_55, true_or, or_true, or_false, false_or, or_self, Int32.reduceLT, Int32.reduceLE, Nat.add_zero, Nat.zero_add, Nat.not_lt_zero, not_false_eq_true, not_true_eq_false, and_assoc, kl_q, kl_i, kl_r, kl_n, kl_0, kl_l, cs_0, cs_i, cs_r, cs_n, cs_l, aRf_s, aRf_n, gi_wl, gi_wr, gl_wi, gl_wl, gl_wr, gr_wi, gr_wl, gr_wr, sh_wi, sh_wl, sh_wr, gl_cp, gr_cp, sh_cp, gl_rw, gr_rw, sh_rw, gi_rl, gr_rl, sh_rl, Option.toList_some, Option.toList_none, List.nil_append, List.cons_append, List.append_nil, Option.some.injEq, Prod.mk.injEq, and_true, true_and, and_self, if_true, if_false, reduceCtorEq, Nat.reduceLeDiff, Nat.reduceLT, Nat.reduceAdd, Nat.reduceEqDiff, false_and, and_false, exists_const, exists_eq_left, exists_eq_left', exists_and_left, and_assoc, nltL, nltR, nleL, nleR, neqL, neqR, naL, naR, nmL, nmR, nI_ltI, nI_leI, nI_eq, nI_add, nI_mul, nI_clamp, n0l, n0r, nm1, nm1', nm1l, nm1r, nm1g, nsL, nI_m1, Nat.add_sub_cancel, vpn, vpL, nclL, le32, leLL, leLN, leNL, leNN, inA, nb0, nb1, gi_wi_n, gi_wi_e, gi_rw_n, gi_rw_e, aWi_rw, ifl, ifl_, ifle, ifle_, ifq, ifq_, ifnq, ifnq_, ifnl, ifnl_, ifnle, ifnle_, z33 ok, z34 ok, r33_0 ok, e2, h0', sfI_s hj, e3, i1, i2]
      have := f1.w (by decide) (by rw [hB j hj]; exact h0')
      rw [hB j hj] at this
      exact hk _ _ ⟨_, rfl, this⟩
  · rintro lv h' ⟨z, rfl, f1⟩
    rw [s73_3, show sfI 4 = -8 from rfl]
    simp (disch := omega) only [s73_0, s73_2, s73_4, s73_7, s73_8, s73_9, s73_10, s73_13, s73_14, s73_15, s73_16, s73_19, s73_20, s73_23, s73_26, s73_29, s73_30, s73_33, s73_34, s73_37, s73_38, s73_39, s73_40, s73_40i, s73_41, s73_44, s73_45, s73_46, s73_49, s73_52, s73_55, true_or, or_true, or_false, false_or, or_self, Int32.reduceLT, Int32.reduceLE, Nat.add_zero, Nat.zero_add, Nat.not_lt_zero, not_false_eq_true, not_true_eq_false, and_assoc, kl_q, kl_i, kl_r, kl_n, kl_0, kl_l, cs_0, cs_i, cs_r, cs_n, cs_l, aRf_s, aRf_n, gi_wl, gi_wr, gl_wi, gl_wl, gl_wr, gr_wi, gr_wl, gr_wr, sh_wi, sh_wl, sh_wr, gl_cp, gr_cp, sh_cp, gl_rw, gr_rw, sh_rw, gi_rl, gr_rl, sh_rl, Option.toList_some, Option.toList_none, List.nil_append, List.cons_append, List.append_nil, Option.some.injEq, Prod.mk.injEq, and_true, true_and, and_self, if_true, if_false, reduceCtorEq, Nat.reduceLeDiff, Nat.reduceLT, Nat.reduceAdd, Nat.reduceEqDiff, false_and, and_false, exists_const, exists_eq_left, exists_eq_left', exists_and_left, and_assoc, nltL, nltR, nleL, nleR, neqL, neqR, naL, naR, nmL, nmR, nI_ltI, nI_leI, nI_eq, nI_add, nI_mul, nI_clamp, n0l, n0r, nm1, nm1', nm1l, nm1r, nm1g, nsL, nI_m1, Nat.add_sub_cancel, vpn, vpL, nclL, le32, leLL, leLN, leNL, leNN, inA, nb0, nb1, gi_wi_n, gi_wi_e, gi_rw_n, gi_rw_e, aWi_rw, ifl, ifl_, ifle, ifle_, ifq, ifq_, ifnq, ifnq_, ifnl, ifnl_, ifnle, ifnle_]
    exact hq _ f1
def selW (a b c e f : Int32) (k : Nat) : Int32 := if k < 4 then a else if k < 8 then b else if k < 12 then c else if k < 16 then e else f
def feB (a b c e f : Int32) (k : Nat) : Int32 := bt (selW a b c e f k) (24 - 8 * (k % 4))
theorem m_byteOf {a b c e f : Int32} {k : Nat} (hk : k < 20) : AW d 165 0 [some (.int a), some (.int b), some (.int c), some (.int e), some (.int f), some (.int (nI k)), none] [] h Q ↔ Q (some (.int (feB a b c e f k))) h := by
  have ek : k - k / 4 * 4 = k % 4 := by omega
  unfold feB selW bt
  by_cases h1 : k < 4
  · simp (disch := omega) only [s165_0, s165_2, s165_3, s165_6, s165_7, s165_10, s165_12, s165_14, s165_17, s165_18, s165_21, s165_23, s165_25, s165_28, s165_29, s165_32, s165_34, s165_36, s165_39, s165_40, s165_43, s165_45, s165_47, s165_49, s165_51, s165_53, s165_55, s165_56, s165_57, s165_58, s165_59, s165_60, s165_63, s165_64, true_or, or_true, or_false, false_or, or_self, Int32.reduceLT, Int32.reduceLE, Nat.add_zero, Nat.zero_add, Nat.not_lt_zero, not_false_eq_true, not_true_eq_false, and_assoc, kl_q, kl_i, kl_r, kl_n, kl_0, kl_l, cs_0, cs_i, cs_r, cs_n, cs_l, aRf_s, aRf_n, gi_wl, gi_wr, gl_wi, gl_wl, gl_wr, gr_wi, gr_wl, gr_wr, sh_wi, sh_wl, sh_wr, gl_cp, gr_cp, sh_cp, gl_rw, gr_rw, sh_rw, gi_rl, gr_rl, sh_rl, Option.toList_some, Option.toList_none, List.nil_append, List.cons_append, List.append_nil, Option.some.injEq, Prod.mk.injEq, and_true, true_and, and_self, if_true, if_false, reduceCtorEq, Nat.reduceLeDiff, Nat.reduceLT, Nat.reduceAdd, Nat.reduceEqDiff, false_and, and_false, exists_const, exists_eq_left, exists_eq_left', exists_and_left, and_assoc, nltL, nltR, nleL, nleR, neqL, neqR, naL, naR, nmL, nmR, nI_ltI, nI_leI, nI_eq, nI_add, nI_mul, nI_clamp, n0l, n0r, nm1, nm1', nm1l, nm1r, nm1g, nsL, nI_m1, Nat.add_sub_cancel, vpn, vpL, nclL, le32, leLL, leLN, leNL, leNN, inA, nb0, nb1, gi_wi_n, gi_wi_e, gi_rw_n, gi_rw_e, aWi_rw, ifl, ifl_, ifle, ifle_, ifq, ifq_, ifnq, ifnq_, ifnl, ifnl_, ifnle, ifnle_, nsR, ndL, nI_sub, ek, h1]
  · by_cases h2 : k < 8
    · simp (disch := omega) only [s165_0, s165_2, s165_3, s165_6, s165_7, s165_10, s165_12, s165_14, s165_17, s165_18, s165_21, s165_23, s165_25, s165_28, s165_29, s165_32, s165_34, s165_36, s165_39, s165_40, s165_43, s165_45, s165_47, s165_49, s165_51, s165_53, s165_55, s165_56, s165_57, s165_58, s165_59, s165_60, s165_63, s165_64, true_or, or_true, or_false, false_or, or_self, Int32.reduceLT, Int32.reduceLE, Nat.add_zero, Nat.zero_add, Nat.not_lt_zero, not_false_eq_true, not_true_eq_false, and_assoc, kl_q, kl_i, kl_r, kl_n, kl_0, kl_l, cs_0, cs_i, cs_r, cs_n, cs_l, aRf_s, aRf_n, gi_wl, gi_wr, gl_wi, gl_wl, gl_wr, gr_wi, gr_wl, gr_wr, sh_wi, sh_wl, sh_wr, gl_cp, gr_cp, sh_cp, gl_rw, gr_rw, sh_rw, gi_rl, gr_rl, sh_rl, Option.toList_some, Option.toList_none, List.nil_append, List.cons_append, List.append_nil, Option.some.injEq, Prod.mk.injEq, and_true, true_and, and_self, if_true, if_false, reduceCtorEq, Nat.reduceLeDiff, Nat.reduceLT, Nat.reduceAdd, Nat.reduceEqDiff, false_and, and_false, exists_const, exists_eq_left, exists_eq_left', exists_and_left, and_assoc, nltL, nltR, nleL, nleR, neqL, neqR, naL, naR, nmL, nmR, nI_ltI, nI_leI, nI_eq, nI_add, nI_mul, nI_clamp, n0l, n0r, nm1, nm1', nm1l, nm1r, nm1g, nsL, nI_m1, Nat.add_sub_cancel, vpn, vpL, nclL, le32, leLL, leLN, leNL, leNN, inA, nb0, nb1, gi_wi_n, gi_wi_e, gi_rw_n, gi_rw_e, aWi_rw, ifl, ifl_, ifle, ifle_, ifq, ifq_, ifnq, ifnq_, ifnl, ifnl_, ifnle, ifnle_, nsR, ndL, nI_sub, ek, h1, h2]
    · by_cases h3 : k < 12
      · simp (disch := omega) only [s165_0, s165_2, s165_3, s165_6, s165_7, s165_10, s165_12, s165_14, s165_17, s165_18, s165_21, s165_23, s165_25, s165_28, s165_29, s165_32, s165_34, s165_36, s165_39, s165_40, s165_43, s165_45, s165_47, s165_49, s165_51, s165_53, s165_55, s165_56, s165_57, s165_58, s165_59, s165_60, s165_63, s165_64, true_or, or_true, or_false, false_or, or_self, Int32.reduceLT, Int32.reduceLE, Nat.add_zero, Nat.zero_add, Nat.not_lt_zero, not_false_eq_true, not_true_eq_false, and_assoc, kl_q, kl_i, kl_r, kl_n, kl_0, kl_l, cs_0, cs_i, cs_r, cs_n, cs_l, aRf_s, aRf_n, gi_wl, gi_wr, gl_wi, gl_wl, gl_wr, gr_wi, gr_wl, gr_wr, sh_wi, sh_wl, sh_wr, gl_cp, gr_cp, sh_cp, gl_rw, gr_rw, sh_rw, gi_rl, gr_rl, sh_rl, Option.toList_some, Option.toList_none, List.nil_append, List.cons_append, List.append_nil, Option.some.injEq, Prod.mk.injEq, and_true, true_and, and_self, if_true, if_false, reduceCtorEq, Nat.reduceLeDiff, Nat.reduceLT, Nat.reduceAdd, Nat.reduceEqDiff, false_and, and_false, exists_const, exists_eq_left, exists_eq_left', exists_and_left, and_assoc, nltL, nltR, nleL, nleR, neqL, neqR, naL, naR, nmL, nmR, nI_ltI, nI_leI, nI_eq, nI_add, nI_mul, nI_clamp, n0l, n0r, nm1, nm1', nm1l, nm1r, nm1g, nsL, nI_m1, Nat.add_sub_cancel, vpn, vpL, nclL, le32, leLL, leLN, leNL, leNN, inA, nb0, nb1, gi_wi_n, gi_wi_e, gi_rw_n, gi_rw_e, aWi_rw, ifl, ifl_, ifle, ifle_, ifq, ifq_, ifnq, ifnq_, ifnl, ifnl_, ifnle, ifnle_, nsR, ndL, nI_sub, ek, h1, h2, h3]
      · by_cases h4 : k < 16
        · simp (disch := omega) only [s165_0, s165_2, s165_3, s165_6, s165_7, s165_10, s165_12, s165_14, s165_17, s165_18, s165_21, s165_23, s165_25, s165_28, s165_29, s165_32, s165_34, s165_36, s165_39, s165_40, s165_43, s165_45, s165_47, s165_49, s165_51, s165_53, s165_55, s165_56, s165_57, s165_58, s165_59, s165_60, s165_63, s165_64, true_or, or_true, or_false, false_or, or_self, Int32.reduceLT, Int32.reduceLE, Nat.add_zero, Nat.zero_add, Nat.not_lt_zero, not_false_eq_true, not_true_eq_false, and_assoc, kl_q, kl_i, kl_r, kl_n, kl_0, kl_l, cs_0, cs_i, cs_r, cs_n, cs_l, aRf_s, aRf_n, gi_wl, gi_wr, gl_wi, gl_wl, gl_wr, gr_wi, gr_wl, gr_wr, sh_wi, sh_wl, sh_wr, gl_cp, gr_cp, sh_cp, gl_rw, gr_rw, sh_rw, gi_rl, gr_rl, sh_rl, Option.toList_some, Option.toList_none, List.nil_append, List.cons_append, List.append_nil, Option.some.injEq, Prod.mk.injEq, and_true, true_and, and_self, if_true, if_false, reduceCtorEq, Nat.reduceLeDiff, Nat.reduceLT, Nat.reduceAdd, Nat.reduceEqDiff, false_and, and_false, exists_const, exists_eq_left, exists_eq_left', exists_and_left, and_assoc, nltL, nltR, nleL, nleR, neqL, neqR, naL, naR, nmL, nmR, nI_ltI, nI_leI, nI_eq, nI_add, nI_mul, nI_clamp, n0l, n0r, nm1, nm1', nm1l, nm1r, nm1g, nsL, nI_m1, Nat.add_sub_cancel, vpn, vpL, nclL, le32, leLL, leLN, leNL, leNN, inA, nb0, nb1, gi_wi_n, gi_wi_e, gi_rw_n, gi_rw_e, aWi_rw, ifl, ifl_, ifle, ifle_, ifq, ifq_, ifnq, ifnq_, ifnl, ifnl_, ifnle, ifnle_, nsR, ndL, nI_sub, ek, h1, h2, h3, h4]
        · simp (disch := omega) only [s165_0, s165_2, s165_3, s165_6, s165_7, s165_10, s165_12, s165_14, s165_17, s165_18, s165_21, s165_23, s165_25, s165_28, s165_29, s165_32, s165_34, s165_36, s165_39, s165_40, s165_43, s165_45, s165_47, s165_49, s165_51, s165_53, s165_55, s165_56, s165_57, s165_58, s165_59, s165_60, s165_63, s165_64, true_or, or_true, or_false, false_or, or_self, Int32.reduceLT, Int32.reduceLE, Nat.add_zero, Nat.zero_add, Nat.not_lt_zero, not_false_eq_true, not_true_eq_false, and_assoc, kl_q, kl_i, kl_r, kl_n, kl_0, kl_l, cs_0, cs_i, cs_r, cs_n, cs_l, aRf_s, aRf_n, gi_wl, gi_wr, gl_wi, gl_wl, gl_wr, gr_wi, gr_wl, gr_wr, sh_wi, sh_wl, sh_wr, gl_cp, gr_cp, sh_cp, gl_rw, gr_rw, sh_rw, gi_rl, gr_rl, sh_rl, Option.toList_some, Option.toList_none, List.nil_append, List.cons_append, List.append_nil, Option.some.injEq, Prod.mk.injEq, and_true, true_and, and_self, if_true, if_false, reduceCtorEq, Nat.reduceLeDiff, Nat.reduceLT, Nat.reduceAdd, Nat.reduceEqDiff, false_and, and_false, exists_const, exists_eq_left, exists_eq_left', exists_and_left, and_assoc, nltL, nltR, nleL, nleR, neqL, neqR, naL, naR, nmL, nmR, nI_ltI, nI_leI, nI_eq, nI_add, nI_mul, nI_clamp, n0l, n0r, nm1, nm1', nm1l, nm1r, nm1g, nsL, nI_m1, Nat.add_sub_cancel, vpn, vpL, nclL, le32, leLL, leLN, leNL, leNN, inA, nb0, nb1, gi_wi_n, gi_wi_e, gi_rw_n, gi_rw_e, aWi_rw, ifl, ifl_, ifle, ifle_, ifq, ifq_, ifnq, ifnq_, ifnl, ifnl_, ifnle, ifnle_, nsR, ndL, nI_sub, ek, h1, h2, h3, h4]
theorem nzc_blk {B : Nat → Int32} {w : Int32} {k : Nat} (hB : ∀ j, j < 4 → B (k + j) = bt w (24 - 8 * j)) : ∀ j, j ≤ 4 → nzc B (k + j) = nzc B k + nzc (fun j => bt w (24 - 8 * j)) j
  | 0, _ => rfl
  | j + 1, hj => by
    rw [← Nat.add_assoc, nzc, nzc, nzc_blk hB j (by omega), hB j (by omega)]
    split
    · rfl
    · omega
theorem a_feed (a b c e f : Int32) : Act 89 166 [some (.ref 32), some (.int a), some (.int b), some (.int c), some (.int e), some (.int f), none] [some (.ref 399), some (.int a), some (.int b), some (.int c), some (.int e), some (.int f), none, none, none] := by
  rintro g d ⟨M, F, L, W, N, D, c', nx, n, T, s, lg, ks, Dk, i⟩
  obtain ⟨i1, i2, i3, i4, ⟨i5, i6, i7⟩, ⟨i8, i9⟩, i10, i11, i12, i13, i14, i15, i16⟩ := id i
  have it := i2
  have hM : M ≤ 6 := it.1
  have hM' : M ≤ 10 := by omega
  have hF : F ≤ 5 := it.2.1
  have hF' : F ≤ 10 := by omega
  have hL : L ≤ 30 := it.2.2.1
  have hW : W ≤ 20 := it.2.2.2.1
  have hc40 := i11.1
  have hnx := i11.2.1
  obtain ⟨r1, r2, r3, r4, r5, r6, r7, r8⟩ := rd58' it
  obtain ⟨w1, w2, w3, w4, w5, w6⟩ := rdS i5
  have ok := i1
  obtain ⟨t1, t2, t3, t4⟩ := id i14
  have inv : Inv g := ⟨M, F, L, W, N, D, c', nx, n, T, s, lg, ks, Dk, i⟩
  obtain ⟨B, eB⟩ : ∃ B, B = feB a b c e f := ⟨_, rfl⟩
  have hb0 : ∀ j, j < 4 → B (0 + j) = bt a (24 - 8 * j) := fun j hj => by
    rw [eB]
    unfold feB selW
    rw [if_pos (by omega), Nat.zero_add, Nat.mod_eq_of_lt hj]
  have hb1 : ∀ j, j < 4 → B (4 + j) = bt b (24 - 8 * j) := fun j hj => by
    rw [eB]
    unfold feB selW
    rw [if_neg (by omega), if_pos (by omega), show (4 + j) % 4 = j by omega]
  have hb2 : ∀ j, j < 4 → B (8 + j) = bt c (24 - 8 * j) := fun j hj => by
    rw [eB]
    unfold feB selW
    rw [if_neg (by omega), if_neg (by omega), if_pos (by omega), show (8 + j) % 4 = j by omega]
  have hb3 : ∀ j, j < 4 → B (12 + j) = bt e (24 - 8 * j) := fun j hj => by
    rw [eB]
    unfold feB selW
    rw [if_neg (by omega), if_neg (by omega), if_neg (by omega), if_pos (by omega), show (12 + j) % 4 = j by omega]
  have hb4 : ∀ j, j < 4 → B (16 + j) = bt f (24 - 8 * j) := fun j hj => by
    rw [eB]
    unfold feB selW
    rw [if_neg (by omega), if_neg (by omega), if_neg (by omega), if_neg (by omega), show (16 + j) % 4 = j by omega]
  have z0 : nzc B 0 = 0 := rfl
  have n1 := nzc_blk hb0 4 (Nat.le_refl _)
  have n2 := nzc_blk hb1 4 (Nat.le_refl _)
  have n3 := nzc_blk hb2 4 (Nat.le_refl _)
  have n4 := nzc_blk hb3 4 (Nat.le_refl _)
  have n5 := nzc_blk hb4 4 (Nat.le_refl _)
  simp only [Nat.zero_add, Nat.reduceAdd] at n1 n2 n3 n4 n5
  have l20 := nzc_le B 20
  simp (disch := omega) only [s89_0, s89_1, s89_4, s89_5, s89_8, s89_9, s89_10, s89_13, s89_14, s89_16, s89_19, s89_20, s89_22, s89_25, s89_26, s89_28, s89_29, s89_32, s89_35, s89_37, s89_38, s89_41, s89_44, s89_45, s89_46, s89_47, s89_50, s89_51, s89_54, s89_55, s89_58, s89_59, s89_62, s89_63, s89_66, s89_67, s89_70, s89_71, s89_74, s89_76, s89_79, s89_80, s89_83, s89_85, s89_88, s89_89, s89_92, s89_95, true_or, or_true, or_false, false_or, or_self, Int32.reduceLT, Int32.reduceLE, Nat.add_zero, Nat.zero_add, Nat.not_lt_zero, not_false_eq_true, not_true_eq_false, and_assoc, kl_q, kl_i, kl_r, kl_n, kl_0, kl_l, cs_0, cs_i, cs_r, cs_n, cs_l, aRf_s, aRf_n, gi_wl, gi_wr, gl_wi, gl_wl, gl_wr, gr_wi, gr_wl, gr_wr, sh_wi, sh_wl, sh_wr, gl_cp, gr_cp, sh_cp, gl_rw, gr_rw, sh_rw, gi_rl, gr_rl, sh_rl, Option.toList_some, Option.toList_none, List.nil_append, List.cons_append, List.append_nil, Option.some.injEq, Prod.mk.injEq, and_true, true_and, and_self, if_true, if_false, reduceCtorEq, Nat.reduceLeDiff, Nat.reduceLT, Nat.reduceAdd, Nat.reduceEqDiff, false_and, and_false, exists_const, exists_eq_left, exists_eq_left', exists_and_left, and_assoc, nltL, nltR, nleL, nleR, neqL, neqR, naL, naR, nmL, nmR, nI_ltI, nI_leI, nI_eq, nI_add, nI_mul, nI_clamp, n0l, n0r, nm1, nm1', nm1l, nm1r, nm1g, nsL, nI_m1, Nat.add_sub_cancel, vpn, vpL, nclL, le32, leLL, leLN, leNL, leNN, inA, nb0, nb1, gi_wi_n, gi_wi_e, gi_rw_n, gi_rw_e, aWi_rw, ifl, ifl_, ifle, ifle_, ifq, ifq_, ifnq, ifnq_, ifnl, ifnl_, ifnle, ifnle_]
  refine c_bytesIn ?_
  simp (disch := omega) only [s89_0, s89_1, s89_4, s89_5, s89_8, s89_9, s89_10, s89_13, s89_14, s89_16, s89_19, s89_20, s89_22, s89_25, s89_26, s89_28, s89_29, s89_32, s89_35, s89_37, s89_38, s89_41, s89_44, s89_45, s89_46, s89_47, s89_50, s89_51, s89_54, s89_55, s89_58, s89_59, s89_62, s89_63, s89_66, s89_67, s89_70, s89_71, s89_74, s89_76, s89_79, s89_80, s89_83, s89_85, s89_88, s89_89, s89_92, s89_95, true_or, or_true, or_false, false_or, or_self, Int32.reduceLT, Int32.reduceLE, Nat.add_zero, Nat.zero_add, Nat.not_lt_zero, not_false_eq_true, not_true_eq_false, and_assoc, kl_q, kl_i, kl_r, kl_n, kl_0, kl_l, cs_0, cs_i, cs_r, cs_n, cs_l, aRf_s, aRf_n, gi_wl, gi_wr, gl_wi, gl_wl, gl_wr, gr_wi, gr_wl, gr_wr, sh_wi, sh_wl, sh_wr, gl_cp, gr_cp, sh_cp, gl_rw, gr_rw, sh_rw, gi_rl, gr_rl, sh_rl, Option.toList_some, Option.toList_none, List.nil_append, List.cons_append, List.append_nil, Option.some.injEq, Prod.mk.injEq, and_true, true_and, and_self, if_true, if_false, reduceCtorEq, Nat.reduceLeDiff, Nat.reduceLT, Nat.reduceAdd, Nat.reduceEqDiff, false_and, and_false, exists_const, exists_eq_left, exists_eq_left', exists_and_left, and_assoc, nltL, nltR, nleL, nleR, neqL, neqR, naL, naR, nmL, nmR, nI_ltI, nI_leI, nI_eq, nI_add, nI_mul, nI_clamp, n0l, n0r, nm1, nm1', nm1l, nm1r, nm1g, nsL, nI_m1, Nat.add_sub_cancel, vpn, vpL, nclL, le32, leLL, leLN, leNL, leNN, inA, nb0, nb1, gi_wi_n, gi_wi_e, gi_rw_n, gi_rw_e, aWi_rw, ifl, ifl_, ifle, ifle_, ifq, ifq_, ifnq, ifnq_, ifnl, ifnl_, ifnle, ifnle_]
  refine c_bytesIn ?_
  simp (disch := omega) only [s89_0, s89_1, s89_4, s89_5, s89_8, s89_9, s89_10, s89_13, s89_14, s89_16, s89_19, s89_20, s89_22, s89_25, s89_26, s89_28, s89_29, s89_32, s89_35, s89_37, s89_38, s89_41, s89_44, s89_45, s89_46, s89_47, s89_50, s89_51, s89_54, s89_55, s89_58, s89_59, s89_62, s89_63, s89_66, s89_67, s89_70, s89_71, s89_74, s89_76, s89_79, s89_80, s89_83, s89_85, s89_88, s89_89, s89_92, s89_95, true_or, or_true, or_false, false_or, or_self, Int32.reduceLT, Int32.reduceLE, Nat.add_zero, Nat.zero_add, Nat.not_lt_zero, not_false_eq_true, not_true_eq_false, and_assoc, kl_q, kl_i, kl_r, kl_n, kl_0, kl_l, cs_0, cs_i, cs_r, cs_n, cs_l, aRf_s, aRf_n, gi_wl, gi_wr, gl_wi, gl_wl, gl_wr, gr_wi, gr_wl, gr_wr, sh_wi, sh_wl, sh_wr, gl_cp, gr_cp, sh_cp, gl_rw, gr_rw, sh_rw, gi_rl, gr_rl, sh_rl, Option.toList_some, Option.toList_none, List.nil_append, List.cons_append, List.append_nil, Option.some.injEq, Prod.mk.injEq, and_true, true_and, and_self, if_true, if_false, reduceCtorEq, Nat.reduceLeDiff, Nat.reduceLT, Nat.reduceAdd, Nat.reduceEqDiff, false_and, and_false, exists_const, exists_eq_left, exists_eq_left', exists_and_left, and_assoc, nltL, nltR, nleL, nleR, neqL, neqR, naL, naR, nmL, nmR, nI_ltI, nI_leI, nI_eq, nI_add, nI_mul, nI_clamp, n0l, n0r, nm1, nm1', nm1l, nm1r, nm1g, nsL, nI_m1, Nat.add_sub_cancel, vpn, vpL, nclL, le32, leLL, leLN, leNL, leNN, inA, nb0, nb1, gi_wi_n, gi_wi_e, gi_rw_n, gi_rw_e, aWi_rw, ifl, ifl_, ifle, ifle_, ifq, ifq_, ifnq, ifnq_, ifnl, ifnl_, ifnle, ifnle_]
  refine c_bytesIn ?_
  simp (disch := omega) only [s89_0, s89_1, s89_4, s89_5, s89_8, s89_9, s89_10, s89_13, s89_14, s89_16, s89_19, s89_20, s89_22, s89_25, s89_26, s89_28, s89_29, s89_32, s89_35, s89_37, s89_38, s89_41, s89_44, s89_45, s89_46, s89_47, s89_50, s89_51, s89_54, s89_55, s89_58, s89_59, s89_62, s89_63, s89_66, s89_67, s89_70, s89_71, s89_74, s89_76, s89_79, s89_80, s89_83, s89_85, s89_88, s89_89, s89_92, s89_95, true_or, or_true, or_false, false_or, or_self, Int32.reduceLT, Int32.reduceLE, Nat.add_zero, Nat.zero_add, Nat.not_lt_zero, not_false_eq_true, not_true_eq_false, and_assoc, kl_q, kl_i, kl_r, kl_n, kl_0, kl_l, cs_0, cs_i, cs_r, cs_n, cs_l, aRf_s, aRf_n, gi_wl, gi_wr, gl_wi, gl_wl, gl_wr, gr_wi, gr_wl, gr_wr, sh_wi, sh_wl, sh_wr, gl_cp, gr_cp, sh_cp, gl_rw, gr_rw, sh_rw, gi_rl, gr_rl, sh_rl, Option.toList_some, Option.toList_none, List.nil_append, List.cons_append, List.append_nil, Option.some.injEq, Prod.mk.injEq, and_true, true_and, and_self, if_true, if_false, reduceCtorEq, Nat.reduceLeDiff, Nat.reduceLT, Nat.reduceAdd, Nat.reduceEqDiff, false_and, and_false, exists_const, exists_eq_left, exists_eq_left', exists_and_left, and_assoc, nltL, nltR, nleL, nleR, neqL, neqR, naL, naR, nmL, nmR, nI_ltI, nI_leI, nI_eq, nI_add, nI_mul, nI_clamp, n0l, n0r, nm1, nm1', nm1l, nm1r, nm1g, nsL, nI_m1, Nat.add_sub_cancel, vpn, vpL, nclL, le32, leLL, leLN, leNL, leNN, inA, nb0, nb1, gi_wi_n, gi_wi_e, gi_rw_n, gi_rw_e, aWi_rw, ifl, ifl_, ifle, ifle_, ifq, ifq_, ifnq, ifnq_, ifnl, ifnl_, ifnle, ifnle_]
  refine c_bytesIn ?_
  simp (disch := omega) only [s89_0, s89_1, s89_4, s89_5, s89_8, s89_9, s89_10, s89_13, s89_14, s89_16, s89_19, s89_20, s89_22, s89_25, s89_26, s89_28, s89_29, s89_32, s89_35, s89_37, s89_38, s89_41, s89_44, s89_45, s89_46, s89_47, s89_50, s89_51, s89_54, s89_55, s89_58, s89_59, s89_62, s89_63, s89_66, s89_67, s89_70, s89_71, s89_74, s89_76, s89_79, s89_80, s89_83, s89_85, s89_88, s89_89, s89_92, s89_95, true_or, or_true, or_false, false_or, or_self, Int32.reduceLT, Int32.reduceLE, Nat.add_zero, Nat.zero_add, Nat.not_lt_zero, not_false_eq_true, not_true_eq_false, and_assoc, kl_q, kl_i, kl_r, kl_n, kl_0, kl_l, cs_0, cs_i, cs_r, cs_n, cs_l, aRf_s, aRf_n, gi_wl, gi_wr, gl_wi, gl_wl, gl_wr, gr_wi, gr_wl, gr_wr, sh_wi, sh_wl, sh_wr, gl_cp, gr_cp, sh_cp, gl_rw, gr_rw, sh_rw, gi_rl, gr_rl, sh_rl, Option.toList_some, Option.toList_none, List.nil_append, List.cons_append, List.append_nil, Option.some.injEq, Prod.mk.injEq, and_true, true_and, and_self, if_true, if_false, reduceCtorEq, Nat.reduceLeDiff, Nat.reduceLT, Nat.reduceAdd, Nat.reduceEqDiff, false_and, and_false, exists_const, exists_eq_left, exists_eq_left', exists_and_left, and_assoc, nltL, nltR, nleL, nleR, neqL, neqR, naL, naR, nmL, nmR, nI_ltI, nI_leI, nI_eq, nI_add, nI_mul, nI_clamp, n0l, n0r, nm1, nm1', nm1l, nm1r, nm1g, nsL, nI_m1, Nat.add_sub_cancel, vpn, vpL, nclL, le32, leLL, leLN, leNL, leNN, inA, nb0, nb1, gi_wi_n, gi_wi_e, gi_rw_n, gi_rw_e, aWi_rw, ifl, ifl_, ifle, ifle_, ifq, ifq_, ifnq, ifnq_, ifnl, ifnl_, ifnle, ifnle_]
  refine c_bytesIn ?_
  have es : nzc (fun j => bt a (24 - 8 * j)) 4 + nzc (fun j => bt b (24 - 8 * j)) 4 + nzc (fun j => bt c (24 - 8 * j)) 4 + nzc (fun j => bt e (24 - 8 * j)) 4 + nzc (fun j => bt f (24 - 8 * j)) 4 = nzc B 20 := by omega
  simp (disch := omega) only [s89_0, s89_1, s89_4, s89_5, s89_8, s89_9, s89_10, s89_13, s89_14, s89_16, s89_19, s89_20, s89_22, s89_25, s89_26, s89_28, s89_29, s89_32, s89_35, s89_37, s89_38, s89_41, s89_44, s89_45, s89_46, s89_47, s89_50, s89_51, s89_54, s89_55, s89_58, s89_59, s89_62, s89_63, s89_66, s89_67, s89_70, s89_71, s89_74, s89_76, s89_79, s89_80, s89_83, s89_85, s89_88, s89_89, s89_92, s89_95, s72_0, s72_1, s72_4, true_or, or_true, or_false, false_or, or_self, Int32.reduceLT, Int32.reduceLE, Nat.add_zero, Nat.zero_add, Nat.not_lt_zero, not_false_eq_true, not_true_eq_false, and_assoc, kl_q, kl_i, kl_r, kl_n, kl_0, kl_l, cs_0, cs_i, cs_r, cs_n, cs_l, aRf_s, aRf_n, gi_wl, gi_wr, gl_wi, gl_wl, gl_wr, gr_wi, gr_wl, gr_wr, sh_wi, sh_wl, sh_wr, gl_cp, gr_cp, sh_cp, gl_rw, gr_rw, sh_rw, gi_rl, gr_rl, sh_rl, Option.toList_some, Option.toList_none, List.nil_append, List.cons_append, List.append_nil, Option.some.injEq, Prod.mk.injEq, and_true, true_and, and_self, if_true, if_false, reduceCtorEq, Nat.reduceLeDiff, Nat.reduceLT, Nat.reduceAdd, Nat.reduceEqDiff, false_and, and_false, exists_const, exists_eq_left, exists_eq_left', exists_and_left, and_assoc, nltL, nltR, nleL, nleR, neqL, neqR, naL, naR, nmL, nmR, nI_ltI, nI_leI, nI_eq, nI_add, nI_mul, nI_clamp, n0l, n0r, nm1, nm1', nm1l, nm1r, nm1g, nsL, nI_m1, Nat.add_sub_cancel, vpn, vpL, nclL, le32, leLL, leLN, leNL, leNN, inA, nb0, nb1, gi_wi_n, gi_wi_e, gi_rw_n, gi_rw_e, aWi_rw, ifl, ifl_, ifle, ifle_, ifq, ifq_, ifnq, ifnq_, ifnl, ifnl_, ifnle, ifnle_, z32 ok, z33 ok, r32_0 ok, es, t2]
  have mod : ∀ (X : Int32) h1, OK h1 → gi h1 399 2 = nI T → (¬ T + nzc B 20 ≤ 240 → X = -1 ∧ h1 = g) → (T + nzc B 20 ≤ 240 → X = nI (T + nzc B 20) ∧ ∀ h2, Fed h1 h2 399 2 400 T 20 B → Inv h2) → AW (d + 24) 166 0 [some (.ref 399), some (.int a), some (.int b), some (.int c), some (.int e), some (.int f), none, none, none] [] h1 (fun v' h2 => v' = some (.int X) ∧ Inv h2) := by
    intro X h1 ok1 e1 c1 c2
    have ok := ok1
    simp (disch := omega) only [s166_0, s166_1, s166_3, s166_4, s166_8, s166_10, s166_13, s166_15, s166_16, s166_17, s166_18, s166_20, s166_22, s166_24, s166_27, s166_30, s166_31, s166_34, s166_35, s166_36, s166_38, s166_41, s166_44, s166_45, s166_48, s166_50, s166_51, s166_54, s166_57, s166_58, s166_59, s166_60, s166_64, s166_66, s166_69, s166_70, s166_71, s166_72, s166_74, s166_76, s166_78, s166_81, s166_83, s166_85, s166_88, s166_89, s166_92, s166_93, s166_96, s166_98, s166_99, s166_100, s166_100i, s166_101, s166_104, s166_105, s166_106, s166_109, s166_112, s166_115, s166_116, s166_119, true_or, or_true, or_false, false_or, or_self, Int32.reduceLT, Int32.reduceLE, Nat.add_zero, Nat.zero_add, Nat.not_lt_zero, not_false_eq_true, not_true_eq_false, and_assoc, kl_q, kl_i, kl_r, kl_n, kl_0, kl_l, cs_0, cs_i, cs_r, cs_n, cs_l, aRf_s, aRf_n, gi_wl, gi_wr, gl_wi, gl_wl, gl_wr, gr_wi, gr_wl, gr_wr, sh_wi, sh_wl, sh_wr, gl_cp, gr_cp, sh_cp, gl_rw, gr_rw, sh_rw, gi_rl, gr_rl, sh_rl, Option.toList_some, Option.toList_none, List.nil_append, List.cons_append, List.append_nil, Option.some.injEq, Prod.mk.injEq, and_true, true_and, and_self, if_true, if_false, reduceCtorEq, Nat.reduceLeDiff, Nat.reduceLT, Nat.reduceAdd, Nat.reduceEqDiff, false_and, and_false, exists_const, exists_eq_left, exists_eq_left', exists_and_left, and_assoc, nltL, nltR, nleL, nleR, neqL, neqR, naL, naR, nmL, nmR, nI_ltI, nI_leI, nI_eq, nI_add, nI_mul, nI_clamp, n0l, n0r, nm1, nm1', nm1l, nm1r, nm1g, nsL, nI_m1, Nat.add_sub_cancel, vpn, vpL, nclL, le32, leLL, leLN, leNL, leNN, inA, nb0, nb1, gi_wi_n, gi_wi_e, gi_rw_n, gi_rw_e, aWi_rw, ifl, ifl_, ifle, ifle_, ifq, ifq_, ifnq, ifnq_, ifnl, ifnl_, ifnle, ifnle_]
    refine aLoop 20 (fun k lv h' => lv = [some (.ref 399), some (.int a), some (.int b), some (.int c), some (.int e), some (.int f), some (.int (nI (nzc B k))), some (.int (nI k)), none] ∧ h' = h1) ?_ ?_ 0 _ _ (Nat.zero_le _) ⟨rfl, rfl⟩
    · rintro k lv h' hk ⟨rfl, rfl⟩ hk2
      have q1 : ¬ 20 ≤ k := by omega
      have lk := nzc_le B k
      have hk' := hk2 _ _ ⟨rfl, rfl⟩
      rw [nzc] at hk'
      rw [s166_6]
      simp (disch := omega) only [s166_0, s166_1, s166_3, s166_4, s166_8, s166_10, s166_13, s166_15, s166_16, s166_17, s166_18, s166_20, s166_22, s166_24, s166_27, s166_30, s166_31, s166_34, s166_35, s166_36, s166_38, s166_41, s166_44, s166_45, s166_48, s166_50, s166_51, s166_54, s166_57, s166_58, s166_59, s166_60, s166_64, s166_66, s166_69, s166_70, s166_71, s166_72, s166_74, s166_76, s166_78, s166_81, s166_83, s166_85, s166_88, s166_89, s166_92, s166_93, s166_96, s166_98, s166_99, s166_100, s166_100i, s166_101, s166_104, s166_105, s166_106, s166_109, s166_112, s166_115, s166_116, s166_119, true_or, or_true, or_false, false_or, or_self, Int32.reduceLT, Int32.reduceLE, Nat.add_zero, Nat.zero_add, Nat.not_lt_zero, not_false_eq_true, not_true_eq_false, and_assoc, kl_q, kl_i, kl_r, kl_n, kl_0, kl_l, cs_0, cs_i, cs_r, cs_n, cs_l, aRf_s, aRf_n, gi_wl, gi_wr, gl_wi, gl_wl, gl_wr, gr_wi, gr_wl, gr_wr, sh_wi, sh_wl, sh_wr, gl_cp, gr_cp, sh_cp, gl_rw, gr_rw, sh_rw, gi_rl, gr_rl, sh_rl, Option.toList_some, Option.toList_none, List.nil_append, List.cons_append, List.append_nil, Option.some.injEq, Prod.mk.injEq, and_true, true_and, and_self, if_true, if_false, reduceCtorEq, Nat.reduceLeDiff, Nat.reduceLT, Nat.reduceAdd, Nat.reduceEqDiff, false_and, and_false, exists_const, exists_eq_left, exists_eq_left', exists_and_left, and_assoc, nltL, nltR, nleL, nleR, neqL, neqR, naL, naR, nmL, nmR, nI_ltI, nI_leI, nI_eq, nI_add, nI_mul, nI_clamp, n0l, n0r, nm1, nm1', nm1l, nm1r, nm1g, nsL, nI_m1, Nat.add_sub_cancel, vpn, vpL, nclL, le32, leLL, leLN, leNL, leNN, inA, nb0, nb1, gi_wi_n, gi_wi_e, gi_rw_n, gi_rw_e, aWi_rw, ifl, ifl_, ifle, ifle_, ifq, ifq_, ifnq, ifnq_, ifnl, ifnl_, ifnle, ifnle_, q1, m_byteOf hk]
      rw [← eB]
      by_cases h0 : B k = 0
      · rw [if_pos h0] at hk' ⊢
        exact hk'
      · rw [if_neg h0] at hk' ⊢
        exact hk'
    · rintro lv h' ⟨rfl, rfl⟩
      rw [s166_6]
      by_cases hT : T + nzc B 20 ≤ 240
      · obtain ⟨c3, c4⟩ := c2 hT
        simp (disch := omega) only [s166_0, s166_1, s166_3, s166_4, s166_8, s166_10, s166_13, s166_15, s166_16, s166_17, s166_18, s166_20, s166_22, s166_24, s166_27, s166_30, s166_31, s166_34, s166_35, s166_36, s166_38, s166_41, s166_44, s166_45, s166_48, s166_50, s166_51, s166_54, s166_57, s166_58, s166_59, s166_60, s166_64, s166_66, s166_69, s166_70, s166_71, s166_72, s166_74, s166_76, s166_78, s166_81, s166_83, s166_85, s166_88, s166_89, s166_92, s166_93, s166_96, s166_98, s166_99, s166_100, s166_100i, s166_101, s166_104, s166_105, s166_106, s166_109, s166_112, s166_115, s166_116, s166_119, true_or, or_true, or_false, false_or, or_self, Int32.reduceLT, Int32.reduceLE, Nat.add_zero, Nat.zero_add, Nat.not_lt_zero, not_false_eq_true, not_true_eq_false, and_assoc, kl_q, kl_i, kl_r, kl_n, kl_0, kl_l, cs_0, cs_i, cs_r, cs_n, cs_l, aRf_s, aRf_n, gi_wl, gi_wr, gl_wi, gl_wl, gl_wr, gr_wi, gr_wl, gr_wr, sh_wi, sh_wl, sh_wr, gl_cp, gr_cp, sh_cp, gl_rw, gr_rw, sh_rw, gi_rl, gr_rl, sh_rl, Option.toList_some, Option.toList_none, List.nil_append, List.cons_append, List.append_nil, Option.some.injEq, Prod.mk.injEq, and_true, true_and, and_self, if_true, if_false, reduceCtorEq, Nat.reduceLeDiff, Nat.reduceLT, Nat.reduceAdd, Nat.reduceEqDiff, false_and, and_false, exists_const, exists_eq_left, exists_eq_left', exists_and_left, and_assoc, nltL, nltR, nleL, nleR, neqL, neqR, naL, naR, nmL, nmR, nI_ltI, nI_leI, nI_eq, nI_add, nI_mul, nI_clamp, n0l, n0r, nm1, nm1', nm1l, nm1r, nm1g, nsL, nI_m1, Nat.add_sub_cancel, vpn, vpL, nclL, le32, leLL, leLN, leNL, leNN, inA, nb0, nb1, gi_wi_n, gi_wi_e, gi_rw_n, gi_rw_e, aWi_rw, ifl, ifl_, ifle, ifle_, ifq, ifq_, ifnq, ifnq_, ifnl, ifnl_, ifnle, ifnle_, z399 ok, Nat.le_refl, e1]
        refine aLoop 20 (fun k lv h2 => ∃ z, lv = [some (.ref 399), some (.int a), some (.int b), some (.int c), some (.int e), some (.int f), some (.int (nI (nzc B 20))), some (.int (nI k)), z] ∧ Fed h' h2 399 2 400 T k B) ?_ ?_ 0 _ _ (Nat.zero_le _) ⟨_, rfl, ok1, fun _ _ _ _ => rfl, e1, fun _ _ => rfl, fun i hi => by omega⟩
        · rintro k lv h2 hk ⟨z, rfl, f1⟩ hk2
          have ok := f1.1
          have e3 := f1.2.2.1
          have q1 : ¬ 20 ≤ k := by omega
          have e4 := nzc_mono B (k + 1) (20 - (k + 1))
          rw [show k + 1 + (20 - (k + 1)) = 20 by omega, nzc] at e4
          rw [s166_62]
          by_cases h0 : B k = 0
          · have h0' := h0
            rw [eB] at h0'
            simp (disch := omega) only [s166_0, s166_1, s166_3, s166_4, s166_8, s166_10, s166_13, s166_15, s166_16, s166_17, s166_18, s166_20, s166_22, s166_24, s166_27, s166_30, s166_31, s166_34, s166_35, s166_36, s166_38, s166_41, s166_44, s166_45, s166_48, s166_50, s166_51, s166_54, s166_57, s166_58, s166_59, s166_60, s166_64, s166_66, s166_69, s166_70, s166_71, s166_72, s166_74, s166_76, s166_78, s166_81, s166_83, s166_85, s166_88, s166_89, s166_92, s166_93, s166_96, s166_98, s166_99, s166_100, s166_100i, s166_101, s166_104, s166_105, s166_106, s166_109, s166_112, s166_115, s166_116, s166_119, true_or, or_true, or_false, false_or, or_self, Int32.reduceLT, Int32.reduceLE, Nat.add_zero, Nat.zero_add, Nat.not_lt_zero, not_false_eq_true, not_true_eq_false, and_assoc, kl_q, kl_i, kl_r, kl_n, kl_0, kl_l, cs_0, cs_i, cs_r, cs_n, cs_l, aRf_s, aRf_n, gi_wl, gi_wr, gl_wi, gl_wl, gl_wr, gr_wi, gr_wl, gr_wr, sh_wi, sh_wl, sh_wr, gl_cp, gr_cp, sh_cp, gl_rw, gr_rw, sh_rw, gi_rl, gr_rl, sh_rl, Option.toList_some, Option.toList_none, List.nil_append, List.cons_append, List.append_nil, Option.some.injEq, Prod.mk.injEq, and_true, true_and, and_self, if_true, if_false, reduceCtorEq, Nat.reduceLeDiff, Nat.reduceLT, Nat.reduceAdd, Nat.reduceEqDiff, false_and, and_false, exists_const, exists_eq_left, exists_eq_left', exists_and_left, and_assoc, nltL, nltR, nleL, nleR, neqL, neqR, naL, naR, nmL, nmR, nI_ltI, nI_leI, nI_eq, nI_add, nI_mul, nI_clamp, n0l, n0r, nm1, nm1', nm1l, nm1r, nm1g, nsL, nI_m1, Nat.add_sub_cancel, vpn, vpL, nclL, le32, leLL, leLN, leNL, leNN, inA, nb0, nb1, gi_wi_n, gi_wi_e, gi_rw_n, gi_rw_e, aWi_rw, ifl, ifl_, ifle, ifle_, ifq, ifq_, ifnq, ifnq_, ifnl, ifnl_, ifnle, ifnle_, q1, m_byteOf hk, h0']
            exact hk2 _ _ ⟨_, rfl, f1.z h0⟩
          · rw [if_neg h0] at e4
            have h0' := h0
            rw [eB] at h0'
            have i1' : T + nzc B k < 240 := by omega
            simp (disch := omega) only [s166_0, s166_1, s166_3, s166_4, s166_8, s166_10, s166_13, s166_15, s166_16, s166_17, s166_18, s166_20, s166_22, s166_24, s166_27, s166_30, s166_31, s166_34, s166_35, s166_36, s166_38, s166_41, s166_44, s166_45, s166_48, s166_50, s166_51, s166_54, s166_57, s166_58, s166_59, s166_60, s166_64, s166_66, s166_69, s166_70, s166_71, s166_72, s166_74, s166_76, s166_78, s166_81, s166_83, s166_85, s166_88, s166_89, s166_92, s166_93, s166_96, s166_98, s166_99, s166_100, s166_100i, s166_101, s166_104, s166_105, s166_106, s166_109, s166_112, s166_115, s166_116, s166_119, true_or, or_true, or_false, false_or, or_self, Int32.reduceLT, Int32.reduceLE, Nat.add_zero, Nat.zero_add, Nat.not_lt_zero, not_false_eq_true, not_true_eq_false, and_assoc, kl_q, kl_i, kl_r, kl_n, kl_0, kl_l, cs_0, cs_i, cs_r, cs_n, cs_l, aRf_s, aRf_n, gi_wl, gi_wr, gl_wi, gl_wl, gl_wr, gr_wi, gr_wl, gr_wr, sh_wi, sh_wl, sh_wr, gl_cp, gr_cp, sh_cp, gl_rw, gr_rw, sh_rw, gi_rl, gr_rl, sh_rl, Option.toList_some, Option.toList_none, List.nil_append, List.cons_append, List.append_nil, Option.some.injEq, Prod.mk.injEq, and_true, true_and, and_self, if_true, if_false, reduceCtorEq, Nat.reduceLeDiff, Nat.reduceLT, Nat.reduceAdd, Nat.reduceEqDiff, false_and, and_false, exists_const, exists_eq_left, exists_eq_left', exists_and_left, and_assoc, nltL, nltR, nleL, nleR, neqL, neqR, naL, naR, nmL, nmR, nI_ltI, nI_leI, nI_eq, nI_add, nI_mul, nI_clamp, n0l, n0r, nm1, nm1', nm1l, nm1r, nm1g, nsL, nI_m1, Nat.add_sub_cancel, vpn, vpL, nclL, le32, leLL, leLN, leNL, leNN, inA, nb0, nb1, gi_wi_n, gi_wi_e, gi_rw_n, gi_rw_e, aWi_rw, ifl, ifl_, ifle, ifle_, ifq, ifq_, ifnq, ifnq_, ifnl, ifnl_, ifnle, ifnle_, z399 ok, z400 ok, r399_1 ok, q1, m_byteOf hk, h0', e3, i1']
            have := f1.w (by decide) h0
            subst eB
            exact hk2 _ _ ⟨_, rfl, this⟩
        · rintro lv h2 ⟨z, rfl, f1⟩
          have ok := f1.1
          rw [s166_62]
          simp (disch := omega) only [s166_0, s166_1, s166_3, s166_4, s166_8, s166_10, s166_13, s166_15, s166_16, s166_17, s166_18, s166_20, s166_22, s166_24, s166_27, s166_30, s166_31, s166_34, s166_35, s166_36, s166_38, s166_41, s166_44, s166_45, s166_48, s166_50, s166_51, s166_54, s166_57, s166_58, s166_59, s166_60, s166_64, s166_66, s166_69, s166_70, s166_71, s166_72, s166_74, s166_76, s166_78, s166_81, s166_83, s166_85, s166_88, s166_89, s166_92, s166_93, s166_96, s166_98, s166_99, s166_100, s166_100i, s166_101, s166_104, s166_105, s166_106, s166_109, s166_112, s166_115, s166_116, s166_119, true_or, or_true, or_false, false_or, or_self, Int32.reduceLT, Int32.reduceLE, Nat.add_zero, Nat.zero_add, Nat.not_lt_zero, not_false_eq_true, not_true_eq_false, and_assoc, kl_q, kl_i, kl_r, kl_n, kl_0, kl_l, cs_0, cs_i, cs_r, cs_n, cs_l, aRf_s, aRf_n, gi_wl, gi_wr, gl_wi, gl_wl, gl_wr, gr_wi, gr_wl, gr_wr, sh_wi, sh_wl, sh_wr, gl_cp, gr_cp, sh_cp, gl_rw, gr_rw, sh_rw, gi_rl, gr_rl, sh_rl, Option.toList_some, Option.toList_none, List.nil_append, List.cons_append, List.append_nil, Option.some.injEq, Prod.mk.injEq, and_true, true_and, and_self, if_true, if_false, reduceCtorEq, Nat.reduceLeDiff, Nat.reduceLT, Nat.reduceAdd, Nat.reduceEqDiff, false_and, and_false, exists_const, exists_eq_left, exists_eq_left', exists_and_left, and_assoc, nltL, nltR, nleL, nleR, neqL, neqR, naL, naR, nmL, nmR, nI_ltI, nI_leI, nI_eq, nI_add, nI_mul, nI_clamp, n0l, n0r, nm1, nm1', nm1l, nm1r, nm1g, nsL, nI_m1, Nat.add_sub_cancel, vpn, vpL, nclL, le32, leLL, leLN, leNL, leNN, inA, nb0, nb1, gi_wi_n, gi_wi_e, gi_rw_n, gi_rw_e, aWi_rw, ifl, ifl_, ifle, ifle_, ifq, ifq_, ifnq, ifnq_, ifnl, ifnl_, ifnle, ifnle_, z399 ok, Nat.le_refl, f1.2.2.1]
          rw [c3]
          exact ⟨rfl, c4 _ f1⟩
      · obtain ⟨rfl, rfl⟩ := c1 hT
        simp (disch := omega) only [s166_0, s166_1, s166_3, s166_4, s166_8, s166_10, s166_13, s166_15, s166_16, s166_17, s166_18, s166_20, s166_22, s166_24, s166_27, s166_30, s166_31, s166_34, s166_35, s166_36, s166_38, s166_41, s166_44, s166_45, s166_48, s166_50, s166_51, s166_54, s166_57, s166_58, s166_59, s166_60, s166_64, s166_66, s166_69, s166_70, s166_71, s166_72, s166_74, s166_76, s166_78, s166_81, s166_83, s166_85, s166_88, s166_89, s166_92, s166_93, s166_96, s166_98, s166_99, s166_100, s166_100i, s166_101, s166_104, s166_105, s166_106, s166_109, s166_112, s166_115, s166_116, s166_119, true_or, or_true, or_false, false_or, or_self, Int32.reduceLT, Int32.reduceLE, Nat.add_zero, Nat.zero_add, Nat.not_lt_zero, not_false_eq_true, not_true_eq_false, and_assoc, kl_q, kl_i, kl_r, kl_n, kl_0, kl_l, cs_0, cs_i, cs_r, cs_n, cs_l, aRf_s, aRf_n, gi_wl, gi_wr, gl_wi, gl_wl, gl_wr, gr_wi, gr_wl, gr_wr, sh_wi, sh_wl, sh_wr, gl_cp, gr_cp, sh_cp, gl_rw, gr_rw, sh_rw, gi_rl, gr_rl, sh_rl, Option.toList_some, Option.toList_none, List.nil_append, List.cons_append, List.append_nil, Option.some.injEq, Prod.mk.injEq, and_true, true_and, and_self, if_true, if_false, reduceCtorEq, Nat.reduceLeDiff, Nat.reduceLT, Nat.reduceAdd, Nat.reduceEqDiff, false_and, and_false, exists_const, exists_eq_left, exists_eq_left', exists_and_left, and_assoc, nltL, nltR, nleL, nleR, neqL, neqR, naL, naR, nmL, nmR, nI_ltI, nI_leI, nI_eq, nI_add, nI_mul, nI_clamp, n0l, n0r, nm1, nm1', nm1l, nm1r, nm1g, nsL, nI_m1, Nat.add_sub_cancel, vpn, vpL, nclL, le32, leLL, leLN, leNL, leNN, inA, nb0, nb1, gi_wi_n, gi_wi_e, gi_rw_n, gi_rw_e, aWi_rw, ifl, ifl_, ifle, ifle_, ifq, ifq_, ifnq, ifnq_, ifnl, ifnl_, ifnle, ifnle_, z399 ok, Nat.le_refl, e1]
        exact inv
  by_cases hT : T + nzc B 20 ≤ 240
  · simp (disch := omega) only [s89_0, s89_1, s89_4, s89_5, s89_8, s89_9, s89_10, s89_13, s89_14, s89_16, s89_19, s89_20, s89_22, s89_25, s89_26, s89_28, s89_29, s89_32, s89_35, s89_37, s89_38, s89_41, s89_44, s89_45, s89_46, s89_47, s89_50, s89_51, s89_54, s89_55, s89_58, s89_59, s89_62, s89_63, s89_66, s89_67, s89_70, s89_71, s89_74, s89_76, s89_79, s89_80, s89_83, s89_85, s89_88, s89_89, s89_92, s89_95, true_or, or_true, or_false, false_or, or_self, Int32.reduceLT, Int32.reduceLE, Nat.add_zero, Nat.zero_add, Nat.not_lt_zero, not_false_eq_true, not_true_eq_false, and_assoc, kl_q, kl_i, kl_r, kl_n, kl_0, kl_l, cs_0, cs_i, cs_r, cs_n, cs_l, aRf_s, aRf_n, gi_wl, gi_wr, gl_wi, gl_wl, gl_wr, gr_wi, gr_wl, gr_wr, sh_wi, sh_wl, sh_wr, gl_cp, gr_cp, sh_cp, gl_rw, gr_rw, sh_rw, gi_rl, gr_rl, sh_rl, Option.toList_some, Option.toList_none, List.nil_append, List.cons_append, List.append_nil, Option.some.injEq, Prod.mk.injEq, and_true, true_and, and_self, if_true, if_false, reduceCtorEq, Nat.reduceLeDiff, Nat.reduceLT, Nat.reduceAdd, Nat.reduceEqDiff, false_and, and_false, exists_const, exists_eq_left, exists_eq_left', exists_and_left, and_assoc, nltL, nltR, nleL, nleR, neqL, neqR, naL, naR, nmL, nmR, nI_ltI, nI_leI, nI_eq, nI_add, nI_mul, nI_clamp, n0l, n0r, nm1, nm1', nm1l, nm1r, nm1g, nsL, nI_m1, Nat.add_sub_cancel, vpn, vpL, nclL, le32, leLL, leLN, leNL, leNN, inA, nb0, nb1, gi_wi_n, gi_wi_e, gi_rw_n, gi_rw_e, aWi_rw, ifl, ifl_, ifle, ifle_, ifq, ifq_, ifnq, ifnq_, ifnl, ifnl_, ifnle, ifnle_, z32 ok, z33 ok, r32_0 ok]
    refine c_append (h0 := g) (k := 0) (T := T) hb0 ⟨ok, fun _ _ _ _ => rfl, by rw [z0, Nat.add_zero, t2], fun _ _ => rfl, fun i hi => by omega⟩ (by rw [Nat.zero_add]; omega) (fun h1 f1 => ?_)
    have ok := f1.1
    simp (disch := omega) only [s89_0, s89_1, s89_4, s89_5, s89_8, s89_9, s89_10, s89_13, s89_14, s89_16, s89_19, s89_20, s89_22, s89_25, s89_26, s89_28, s89_29, s89_32, s89_35, s89_37, s89_38, s89_41, s89_44, s89_45, s89_46, s89_47, s89_50, s89_51, s89_54, s89_55, s89_58, s89_59, s89_62, s89_63, s89_66, s89_67, s89_70, s89_71, s89_74, s89_76, s89_79, s89_80, s89_83, s89_85, s89_88, s89_89, s89_92, s89_95, true_or, or_true, or_false, false_or, or_self, Int32.reduceLT, Int32.reduceLE, Nat.add_zero, Nat.zero_add, Nat.not_lt_zero, not_false_eq_true, not_true_eq_false, and_assoc, kl_q, kl_i, kl_r, kl_n, kl_0, kl_l, cs_0, cs_i, cs_r, cs_n, cs_l, aRf_s, aRf_n, gi_wl, gi_wr, gl_wi, gl_wl, gl_wr, gr_wi, gr_wl, gr_wr, sh_wi, sh_wl, sh_wr, gl_cp, gr_cp, sh_cp, gl_rw, gr_rw, sh_rw, gi_rl, gr_rl, sh_rl, Option.toList_some, Option.toList_none, List.nil_append, List.cons_append, List.append_nil, Option.some.injEq, Prod.mk.injEq, and_true, true_and, and_self, if_true, if_false, reduceCtorEq, Nat.reduceLeDiff, Nat.reduceLT, Nat.reduceAdd, Nat.reduceEqDiff, false_and, and_false, exists_const, exists_eq_left, exists_eq_left', exists_and_left, and_assoc, nltL, nltR, nleL, nleR, neqL, neqR, naL, naR, nmL, nmR, nI_ltI, nI_leI, nI_eq, nI_add, nI_mul, nI_clamp, n0l, n0r, nm1, nm1', nm1l, nm1r, nm1g, nsL, nI_m1, Nat.add_sub_cancel, vpn, vpL, nclL, le32, leLL, leLN, leNL, leNN, inA, nb0, nb1, gi_wi_n, gi_wi_e, gi_rw_n, gi_rw_e, aWi_rw, ifl, ifl_, ifle, ifle_, ifq, ifq_, ifnq, ifnq_, ifnl, ifnl_, ifnle, ifnle_, z32 ok, z33 ok, r32_0 ok]
    refine c_append (k := 4) hb1 f1 (by simp only [Nat.reduceAdd]; omega) (fun h2 f2 => ?_)
    have ok := f2.1
    simp (disch := omega) only [s89_0, s89_1, s89_4, s89_5, s89_8, s89_9, s89_10, s89_13, s89_14, s89_16, s89_19, s89_20, s89_22, s89_25, s89_26, s89_28, s89_29, s89_32, s89_35, s89_37, s89_38, s89_41, s89_44, s89_45, s89_46, s89_47, s89_50, s89_51, s89_54, s89_55, s89_58, s89_59, s89_62, s89_63, s89_66, s89_67, s89_70, s89_71, s89_74, s89_76, s89_79, s89_80, s89_83, s89_85, s89_88, s89_89, s89_92, s89_95, true_or, or_true, or_false, false_or, or_self, Int32.reduceLT, Int32.reduceLE, Nat.add_zero, Nat.zero_add, Nat.not_lt_zero, not_false_eq_true, not_true_eq_false, and_assoc, kl_q, kl_i, kl_r, kl_n, kl_0, kl_l, cs_0, cs_i, cs_r, cs_n, cs_l, aRf_s, aRf_n, gi_wl, gi_wr, gl_wi, gl_wl, gl_wr, gr_wi, gr_wl, gr_wr, sh_wi, sh_wl, sh_wr, gl_cp, gr_cp, sh_cp, gl_rw, gr_rw, sh_rw, gi_rl, gr_rl, sh_rl, Option.toList_some, Option.toList_none, List.nil_append, List.cons_append, List.append_nil, Option.some.injEq, Prod.mk.injEq, and_true, true_and, and_self, if_true, if_false, reduceCtorEq, Nat.reduceLeDiff, Nat.reduceLT, Nat.reduceAdd, Nat.reduceEqDiff, false_and, and_false, exists_const, exists_eq_left, exists_eq_left', exists_and_left, and_assoc, nltL, nltR, nleL, nleR, neqL, neqR, naL, naR, nmL, nmR, nI_ltI, nI_leI, nI_eq, nI_add, nI_mul, nI_clamp, n0l, n0r, nm1, nm1', nm1l, nm1r, nm1g, nsL, nI_m1, Nat.add_sub_cancel, vpn, vpL, nclL, le32, leLL, leLN, leNL, leNN, inA, nb0, nb1, gi_wi_n, gi_wi_e, gi_rw_n, gi_rw_e, aWi_rw, ifl, ifl_, ifle, ifle_, ifq, ifq_, ifnq, ifnq_, ifnl, ifnl_, ifnle, ifnle_, z32 ok, z33 ok, r32_0 ok]
    refine c_append (k := 8) hb2 f2 (by simp only [Nat.reduceAdd]; omega) (fun h3 f3 => ?_)
    have ok := f3.1
    simp (disch := omega) only [s89_0, s89_1, s89_4, s89_5, s89_8, s89_9, s89_10, s89_13, s89_14, s89_16, s89_19, s89_20, s89_22, s89_25, s89_26, s89_28, s89_29, s89_32, s89_35, s89_37, s89_38, s89_41, s89_44, s89_45, s89_46, s89_47, s89_50, s89_51, s89_54, s89_55, s89_58, s89_59, s89_62, s89_63, s89_66, s89_67, s89_70, s89_71, s89_74, s89_76, s89_79, s89_80, s89_83, s89_85, s89_88, s89_89, s89_92, s89_95, true_or, or_true, or_false, false_or, or_self, Int32.reduceLT, Int32.reduceLE, Nat.add_zero, Nat.zero_add, Nat.not_lt_zero, not_false_eq_true, not_true_eq_false, and_assoc, kl_q, kl_i, kl_r, kl_n, kl_0, kl_l, cs_0, cs_i, cs_r, cs_n, cs_l, aRf_s, aRf_n, gi_wl, gi_wr, gl_wi, gl_wl, gl_wr, gr_wi, gr_wl, gr_wr, sh_wi, sh_wl, sh_wr, gl_cp, gr_cp, sh_cp, gl_rw, gr_rw, sh_rw, gi_rl, gr_rl, sh_rl, Option.toList_some, Option.toList_none, List.nil_append, List.cons_append, List.append_nil, Option.some.injEq, Prod.mk.injEq, and_true, true_and, and_self, if_true, if_false, reduceCtorEq, Nat.reduceLeDiff, Nat.reduceLT, Nat.reduceAdd, Nat.reduceEqDiff, false_and, and_false, exists_const, exists_eq_left, exists_eq_left', exists_and_left, and_assoc, nltL, nltR, nleL, nleR, neqL, neqR, naL, naR, nmL, nmR, nI_ltI, nI_leI, nI_eq, nI_add, nI_mul, nI_clamp, n0l, n0r, nm1, nm1', nm1l, nm1r, nm1g, nsL, nI_m1, Nat.add_sub_cancel, vpn, vpL, nclL, le32, leLL, leLN, leNL, leNN, inA, nb0, nb1, gi_wi_n, gi_wi_e, gi_rw_n, gi_rw_e, aWi_rw, ifl, ifl_, ifle, ifle_, ifq, ifq_, ifnq, ifnq_, ifnl, ifnl_, ifnle, ifnle_, z32 ok, z33 ok, r32_0 ok]
    refine c_append (k := 12) hb3 f3 (by simp only [Nat.reduceAdd]; omega) (fun h4 f4 => ?_)
    have ok := f4.1
    simp (disch := omega) only [s89_0, s89_1, s89_4, s89_5, s89_8, s89_9, s89_10, s89_13, s89_14, s89_16, s89_19, s89_20, s89_22, s89_25, s89_26, s89_28, s89_29, s89_32, s89_35, s89_37, s89_38, s89_41, s89_44, s89_45, s89_46, s89_47, s89_50, s89_51, s89_54, s89_55, s89_58, s89_59, s89_62, s89_63, s89_66, s89_67, s89_70, s89_71, s89_74, s89_76, s89_79, s89_80, s89_83, s89_85, s89_88, s89_89, s89_92, s89_95, true_or, or_true, or_false, false_or, or_self, Int32.reduceLT, Int32.reduceLE, Nat.add_zero, Nat.zero_add, Nat.not_lt_zero, not_false_eq_true, not_true_eq_false, and_assoc, kl_q, kl_i, kl_r, kl_n, kl_0, kl_l, cs_0, cs_i, cs_r, cs_n, cs_l, aRf_s, aRf_n, gi_wl, gi_wr, gl_wi, gl_wl, gl_wr, gr_wi, gr_wl, gr_wr, sh_wi, sh_wl, sh_wr, gl_cp, gr_cp, sh_cp, gl_rw, gr_rw, sh_rw, gi_rl, gr_rl, sh_rl, Option.toList_some, Option.toList_none, List.nil_append, List.cons_append, List.append_nil, Option.some.injEq, Prod.mk.injEq, and_true, true_and, and_self, if_true, if_false, reduceCtorEq, Nat.reduceLeDiff, Nat.reduceLT, Nat.reduceAdd, Nat.reduceEqDiff, false_and, and_false, exists_const, exists_eq_left, exists_eq_left', exists_and_left, and_assoc, nltL, nltR, nleL, nleR, neqL, neqR, naL, naR, nmL, nmR, nI_ltI, nI_leI, nI_eq, nI_add, nI_mul, nI_clamp, n0l, n0r, nm1, nm1', nm1l, nm1r, nm1g, nsL, nI_m1, Nat.add_sub_cancel, vpn, vpL, nclL, le32, leLL, leLN, leNL, leNN, inA, nb0, nb1, gi_wi_n, gi_wi_e, gi_rw_n, gi_rw_e, aWi_rw, ifl, ifl_, ifle, ifle_, ifq, ifq_, ifnq, ifnq_, ifnl, ifnl_, ifnle, ifnle_, z32 ok, z33 ok, r32_0 ok]
    refine c_append (k := 16) hb4 f4 (by simp only [Nat.reduceAdd]; omega) (fun h5 f5 => ?_)
    have ok := f5.1
    simp (disch := omega) only [s89_0, s89_1, s89_4, s89_5, s89_8, s89_9, s89_10, s89_13, s89_14, s89_16, s89_19, s89_20, s89_22, s89_25, s89_26, s89_28, s89_29, s89_32, s89_35, s89_37, s89_38, s89_41, s89_44, s89_45, s89_46, s89_47, s89_50, s89_51, s89_54, s89_55, s89_58, s89_59, s89_62, s89_63, s89_66, s89_67, s89_70, s89_71, s89_74, s89_76, s89_79, s89_80, s89_83, s89_85, s89_88, s89_89, s89_92, s89_95, s72_0, s72_1, s72_4, true_or, or_true, or_false, false_or, or_self, Int32.reduceLT, Int32.reduceLE, Nat.add_zero, Nat.zero_add, Nat.not_lt_zero, not_false_eq_true, not_true_eq_false, and_assoc, kl_q, kl_i, kl_r, kl_n, kl_0, kl_l, cs_0, cs_i, cs_r, cs_n, cs_l, aRf_s, aRf_n, gi_wl, gi_wr, gl_wi, gl_wl, gl_wr, gr_wi, gr_wl, gr_wr, sh_wi, sh_wl, sh_wr, gl_cp, gr_cp, sh_cp, gl_rw, gr_rw, sh_rw, gi_rl, gr_rl, sh_rl, Option.toList_some, Option.toList_none, List.nil_append, List.cons_append, List.append_nil, Option.some.injEq, Prod.mk.injEq, and_true, true_and, and_self, if_true, if_false, reduceCtorEq, Nat.reduceLeDiff, Nat.reduceLT, Nat.reduceAdd, Nat.reduceEqDiff, false_and, and_false, exists_const, exists_eq_left, exists_eq_left', exists_and_left, and_assoc, nltL, nltR, nleL, nleR, neqL, neqR, naL, naR, nmL, nmR, nI_ltI, nI_leI, nI_eq, nI_add, nI_mul, nI_clamp, n0l, n0r, nm1, nm1', nm1l, nm1r, nm1g, nsL, nI_m1, Nat.add_sub_cancel, vpn, vpL, nclL, le32, leLL, leLN, leNL, leNN, inA, nb0, nb1, gi_wi_n, gi_wi_e, gi_rw_n, gi_rw_e, aWi_rw, ifl, ifl_, ifle, ifle_, ifq, ifq_, ifnq, ifnq_, ifnl, ifnl_, ifnle, ifnle_, z32 ok, z33 ok, r32_0 ok, f5.2.2.1]
    obtain ⟨g1, g2, g3, g4, g5⟩ := f5
    refine ⟨_, rfl, mod _ h5 g1 (by rw [g2 _ _ (by omega) (by omega), t3]) (fun q => absurd hT q) (fun _ => ⟨rfl, fun h6 f6 => ?_⟩)⟩
    obtain ⟨u1, u2, u3, u4, u5⟩ := f6
    have t : ∀ a j, ¬ (a = 33 ∧ j = 1) → ¬ a = 34 → ¬ (a = 399 ∧ j = 2) → ¬ a = 400 → gi h6 a j = gi g a j := fun a j q1 q2 q3 q4 => by
      rw [u2 a j q3 q4, g2 a j q1 q2]
    have z : Ag SZ g h6 := ⟨u1, fun a k q => by
      unfold SZ at q
      exact t a k (fun z => q (Or.inr (Or.inl z.1))) (fun z => q (Or.inr (Or.inr (Or.inl z)))) (fun z => q (Or.inr (Or.inr (Or.inr (Or.inr (Or.inr (Or.inl ⟨z.1, Or.inl z.2⟩))))))) (fun z => q (Or.inr (Or.inr (Or.inr (Or.inr (Or.inr (Or.inr (Or.inl z))))))))⟩
    refine inv_sm i z (il_sm i4 z (t _ _ (by omega) (by omega) (by omega) (by omega)) (t _ _ (by omega) (by omega) (by omega) (by omega))) (is_sm i13 z (fun a k q => t _ _ (by omega) (by omega) (by omega) (by omega))) (T' := T + nzc B 20) ⟨hT, ?_, u3, fun p hp => ?_⟩ (by rw [t _ _ (by omega) (by omega) (by omega) (by omega), t _ _ (by omega) (by omega) (by omega) (by omega)]; exact i16.2)
    · rw [u2 _ _ (by omega) (by omega)]
      exact g3
    · rw [u2 34 _ (by omega) (by omega)]
      by_cases hpT : p < T
      · rw [g4 p hpT, u4 p hpT, g2 400 _ (by omega) (by omega)]
        exact t4 p hpT
      · obtain ⟨j, j1, j2, j3⟩ := nzc_ex B 20 (p - T) (by omega)
        have ep : p = T + nzc B j := by omega
        have e1 := g5 j j1 j2
        have e2 := u5 j j1 j2
        rw [ep, e1, e2]
        refine ⟨rfl, ?_⟩
        rw [eB] at j2 ⊢
        obtain ⟨b', hb', eb'⟩ := bt_b (selW a b c e f j) (24 - 8 * (j % 4))
        have eb2 : feB a b c e f j = nI b' := eb'
        rw [eb2] at j2 ⊢
        refine ⟨b', ?_, hb', rfl⟩
        by_cases q : b' = 0
        · exfalso
          apply j2
          rw [q]
          rfl
        · omega
  · simp (disch := omega) only [s89_0, s89_1, s89_4, s89_5, s89_8, s89_9, s89_10, s89_13, s89_14, s89_16, s89_19, s89_20, s89_22, s89_25, s89_26, s89_28, s89_29, s89_32, s89_35, s89_37, s89_38, s89_41, s89_44, s89_45, s89_46, s89_47, s89_50, s89_51, s89_54, s89_55, s89_58, s89_59, s89_62, s89_63, s89_66, s89_67, s89_70, s89_71, s89_74, s89_76, s89_79, s89_80, s89_83, s89_85, s89_88, s89_89, s89_92, s89_95, true_or, or_true, or_false, false_or, or_self, Int32.reduceLT, Int32.reduceLE, Nat.add_zero, Nat.zero_add, Nat.not_lt_zero, not_false_eq_true, not_true_eq_false, and_assoc, kl_q, kl_i, kl_r, kl_n, kl_0, kl_l, cs_0, cs_i, cs_r, cs_n, cs_l, aRf_s, aRf_n, gi_wl, gi_wr, gl_wi, gl_wl, gl_wr, gr_wi, gr_wl, gr_wr, sh_wi, sh_wl, sh_wr, gl_cp, gr_cp, sh_cp, gl_rw, gr_rw, sh_rw, gi_rl, gr_rl, sh_rl, Option.toList_some, Option.toList_none, List.nil_append, List.cons_append, List.append_nil, Option.some.injEq, Prod.mk.injEq, and_true, true_and, and_self, if_true, if_false, reduceCtorEq, Nat.reduceLeDiff, Nat.reduceLT, Nat.reduceAdd, Nat.reduceEqDiff, false_and, and_false, exists_const, exists_eq_left, exists_eq_left', exists_and_left, and_assoc, nltL, nltR, nleL, nleR, neqL, neqR, naL, naR, nmL, nmR, nI_ltI, nI_leI, nI_eq, nI_add, nI_mul, nI_clamp, n0l, n0r, nm1, nm1', nm1l, nm1r, nm1g, nsL, nI_m1, Nat.add_sub_cancel, vpn, vpL, nclL, le32, leLL, leLN, leNL, leNN, inA, nb0, nb1, gi_wi_n, gi_wi_e, gi_rw_n, gi_rw_e, aWi_rw, ifl, ifl_, ifle, ifle_, ifq, ifq_, ifnq, ifnq_, ifnl, ifnl_, ifnle, ifnle_, z32 ok, z33 ok, r32_0 ok]
    exact ⟨-1, rfl, mod _ g ok t3 (fun _ => ⟨rfl, rfl⟩) (fun q => absurd q hT)⟩
end F1
