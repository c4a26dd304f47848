-- deps: 9f.begin
section B2
variable {d : Nat} {h : aM} {Q : Option Value → aM → Prop} {B : Nat → Nat} {T p : Nat} {s : RS}
def BX (a k : Nat) : Prop := (a = 33 ∧ k = 1) ∨ (58 ≤ a ∧ a ≤ 84) ∨ (a = 89 ∧ k = 2) ∨ (a = 358 ∧ k = 3) ∨ (a = 32 ∧ k = 15)
/-- the class, behind the beginning -/
def BgC (h : aM) (s : RS) : Prop := gi h 33 1 = nI 0 ∧ gi h 58 3 = nI s.2.2.1.length ∧ gi h 58 4 = nI s.2.2.2.length ∧ (∀ k, k < 5 → gi h 59 k = nI (s.2.1 k)) ∧ (∀ i k, i < s.2.2.1.length → k < 4 → gi h (61 + i) k = nI (mf s.2.2.1 i k)) ∧ (∀ i k, i < s.2.2.2.length → k < 2 → gi h (68 + i) k = nI (mf s.2.2.2 i k)) ∧
  StC h s.2.2.1.length s.2.2.2.length 73 (svF s) ∧ StC h s.2.2.1.length s.2.2.2.length 79 (svF s) ∧ gi h 89 2 = nI 0 ∧ gi h 358 3 = nI 0 ∧ gi h 32 15 = 0
theorem sv_1 {k : Nat} (hk : k < 6) : svF s k = nI (mf s.2.2.1 k 0) := by
  unfold svF
  rw [if_pos hk]
theorem sv_2 {k : Nat} (hk : k < 6) : svF s (6 + k) = nI (mf s.2.2.1 k 1) := by
  unfold svF
  rw [if_neg (by omega), if_pos (by omega), Nat.add_sub_cancel_left]
theorem sv_3 {k : Nat} (hk : k < 6) : svF s (12 + k) = nI (mf s.2.2.1 k 2) := by
  unfold svF
  rw [if_neg (by omega), if_neg (by omega), if_pos (by omega), Nat.add_sub_cancel_left]
theorem sv_4 {k : Nat} (hk : k < 6) : svF s (18 + k) = 0 := by
  unfold svF
  rw [if_neg (by omega), if_neg (by omega), if_neg (by omega), if_pos (by omega)]
theorem sv_5 {k : Nat} (hk : k < 5) : svF s (24 + k) = nI (mf s.2.2.2 k 1) := by
  unfold svF
  rw [if_neg (by omega), if_neg (by omega), if_neg (by omega), if_neg (by omega), if_pos (by omega), Nat.add_sub_cancel_left]
theorem c_beginRide (rc : RcC h B T p s) (so : RsOk s) (hq : ∀ h', Ag BX h h' → BgC h' s → Q (some (.int (nI s.2.2.1.length))) h') : AW (d + 4) 93 0 [some (.ref 32)] [] h Q := by
  have ok := rc.1.1
  have hT := rc.1.2.1
  have o1 := so.1
  have o2 := so.2.1
  obtain ⟨-, -, -, r4, r5, r6, r7, r8, r9⟩ := id rc
  simp (disch := omega) only [s93_0, s93_1, s93_4, s93_5, true_or, or_true, or_false, false_or, or_self, Int32.reduceLT, Int32.reduceLE, Nat.add_zero, Nat.zero_add, Nat.not_lt_zero, not_false_eq_true, not_true_eq_false, and_assoc, kl_q, kl_i, kl_r, kl_n, kl_0, kl_l, cs_0, cs_i, cs_r, cs_n, cs_l, aRf_s, aRf_n, gi_wl, gi_wr, gl_wi, gl_wl, gl_wr, gr_wi, gr_wl, gr_wr, sh_wi, sh_wl, sh_wr, gl_cp, gr_cp, sh_cp, gl_rw, gr_rw, sh_rw, gi_rl, gr_rl, sh_rl, Option.toList_some, Option.toList_none, List.nil_append, List.cons_append, List.append_nil, Option.some.injEq, Prod.mk.injEq, and_true, true_and, and_self, if_true, if_false, reduceCtorEq, Nat.reduceLeDiff, Nat.reduceLT, Nat.reduceAdd, Nat.reduceEqDiff, false_and, and_false, exists_const, exists_eq_left, exists_eq_left', exists_and_left, and_assoc, nltL, nltR, nleL, nleR, neqL, neqR, naL, naR, nmL, nmR, nI_ltI, nI_leI, nI_eq, nI_add, nI_mul, nI_clamp, n0l, n0r, nm1, nm1', nm1l, nm1r, nm1g, nsL, nI_m1, Nat.add_sub_cancel, vpn, vpL, nclL, le32, leLL, leLN, leNL, leNN, inA, nb0, nb1, gi_wi_n, gi_wi_e, gi_rw_n, gi_rw_e, aWi_rw, ifl, ifl_, ifle, ifle_, ifq, ifq_, ifnq, ifnq_, ifnl, ifnl_, ifnle, ifnle_, z32 ok, z33 ok, r32_0 ok]
  refine c_cut0 ok hT rc.1.2.2.1 (fun h1 a1 e1 => ?_)
  have ok := a1.1
  simp (disch := omega) only [s93_5, s93_8, s93_9, s93_12, s93_13, s93_16, s93_19, true_or, or_true, or_false, false_or, or_self, Int32.reduceLT, Int32.reduceLE, Nat.add_zero, Nat.zero_add, Nat.not_lt_zero, not_false_eq_true, not_true_eq_false, and_assoc, kl_q, kl_i, kl_r, kl_n, kl_0, kl_l, cs_0, cs_i, cs_r, cs_n, cs_l, aRf_s, aRf_n, gi_wl, gi_wr, gl_wi, gl_wl, gl_wr, gr_wi, gr_wl, gr_wr, sh_wi, sh_wl, sh_wr, gl_cp, gr_cp, sh_cp, gl_rw, gr_rw, sh_rw, gi_rl, gr_rl, sh_rl, Option.toList_some, Option.toList_none, List.nil_append, List.cons_append, List.append_nil, Option.some.injEq, Prod.mk.injEq, and_true, true_and, and_self, if_true, if_false, reduceCtorEq, Nat.reduceLeDiff, Nat.reduceLT, Nat.reduceAdd, Nat.reduceEqDiff, false_and, and_false, exists_const, exists_eq_left, exists_eq_left', exists_and_left, and_assoc, nltL, nltR, nleL, nleR, neqL, neqR, naL, naR, nmL, nmR, nI_ltI, nI_leI, nI_eq, nI_add, nI_mul, nI_clamp, n0l, n0r, nm1, nm1', nm1l, nm1r, nm1g, nsL, nI_m1, Nat.add_sub_cancel, vpn, vpL, nclL, le32, leLL, leLN, leNL, leNN, inA, nb0, nb1, gi_wi_n, gi_wi_e, gi_rw_n, gi_rw_e, aWi_rw, ifl, ifl_, ifle, ifle_, ifq, ifq_, ifnq, ifnq_, ifnl, ifnl_, ifnle, ifnle_, z32 ok, z35 ok, z58 ok, r32_1 ok, r32_3 ok, r35_0 ok]
  refine c_toldCopy ok (fun h2 a2 e2 e3 e4 e5 e6 => ?_)
  have ok := a2.1
  simp (disch := omega) only [s93_19, s93_22, s93_23, s93_26, s93_27, s93_30, true_or, or_true, or_false, false_or, or_self, Int32.reduceLT, Int32.reduceLE, Nat.add_zero, Nat.zero_add, Nat.not_lt_zero, not_false_eq_true, not_true_eq_false, and_assoc, kl_q, kl_i, kl_r, kl_n, kl_0, kl_l, cs_0, cs_i, cs_r, cs_n, cs_l, aRf_s, aRf_n, gi_wl, gi_wr, gl_wi, gl_wl, gl_wr, gr_wi, gr_wl, gr_wr, sh_wi, sh_wl, sh_wr, gl_cp, gr_cp, sh_cp, gl_rw, gr_rw, sh_rw, gi_rl, gr_rl, sh_rl, Option.toList_some, Option.toList_none, List.nil_append, List.cons_append, List.append_nil, Option.some.injEq, Prod.mk.injEq, and_true, true_and, and_self, if_true, if_false, reduceCtorEq, Nat.reduceLeDiff, Nat.reduceLT, Nat.reduceAdd, Nat.reduceEqDiff, false_and, and_false, exists_const, exists_eq_left, exists_eq_left', exists_and_left, and_assoc, nltL, nltR, nleL, nleR, neqL, neqR, naL, naR, nmL, nmR, nI_ltI, nI_leI, nI_eq, nI_add, nI_mul, nI_clamp, n0l, n0r, nm1, nm1', nm1l, nm1r, nm1g, nsL, nI_m1, Nat.add_sub_cancel, vpn, vpL, nclL, le32, leLL, leLN, leNL, leNN, inA, nb0, nb1, gi_wi_n, gi_wi_e, gi_rw_n, gi_rw_e, aWi_rw, ifl, ifl_, ifle, ifle_, ifq, ifq_, ifnq, ifnq_, ifnl, ifnl_, ifnle, ifnle_, z32 ok, z73 ok, r32_3 ok, r32_4 ok]
  refine c_begin ok (fun h3 a3 f1 f2 f3 f4 f5 f6 => ?_)
  have ok := a3.1
  simp (disch := omega) only [s93_30, s93_33, s93_34, s93_37, s93_38, s93_41, true_or, or_true, or_false, false_or, or_self, Int32.reduceLT, Int32.reduceLE, Nat.add_zero, Nat.zero_add, Nat.not_lt_zero, not_false_eq_true, not_true_eq_false, and_assoc, kl_q, kl_i, kl_r, kl_n, kl_0, kl_l, cs_0, cs_i, cs_r, cs_n, cs_l, aRf_s, aRf_n, gi_wl, gi_wr, gl_wi, gl_wl, gl_wr, gr_wi, gr_wl, gr_wr, sh_wi, sh_wl, sh_wr, gl_cp, gr_cp, sh_cp, gl_rw, gr_rw, sh_rw, gi_rl, gr_rl, sh_rl, Option.toList_some, Option.toList_none, List.nil_append, List.cons_append, List.append_nil, Option.some.injEq, Prod.mk.injEq, and_true, true_and, and_self, if_true, if_false, reduceCtorEq, Nat.reduceLeDiff, Nat.reduceLT, Nat.reduceAdd, Nat.reduceEqDiff, false_and, and_false, exists_const, exists_eq_left, exists_eq_left', exists_and_left, and_assoc, nltL, nltR, nleL, nleR, neqL, neqR, naL, naR, nmL, nmR, nI_ltI, nI_leI, nI_eq, nI_add, nI_mul, nI_clamp, n0l, n0r, nm1, nm1', nm1l, nm1r, nm1g, nsL, nI_m1, Nat.add_sub_cancel, vpn, vpL, nclL, le32, leLL, leLN, leNL, leNN, inA, nb0, nb1, gi_wi_n, gi_wi_e, gi_rw_n, gi_rw_e, aWi_rw, ifl, ifl_, ifle, ifle_, ifq, ifq_, ifnq, ifnq_, ifnl, ifnl_, ifnle, ifnle_, z32 ok, z79 ok, r32_4 ok, r32_5 ok]
  refine c_copyS ok bk79 bk73 (Or.inr (by omega)) (fun h4 a4 f7 => ?_)
  have ok := a4.1
  have t1 : ∀ a k, ¬ (a = 33 ∧ k = 1) → gi h1 a k = gi h a k := fun a k z => a1.2 a k z
  have t4 : ∀ a k, 58 ≤ a → a ≤ 72 → gi h4 a k = gi h2 a k := fun a k z1 z2 => by rw [a4.2 _ _ (by unfold BZ; omega), a3.2 _ _ (by omega)]
  have e58 : gi h4 58 3 = nI s.2.2.1.length := by rw [t4 _ _ (by omega) (by omega), e5, t1 _ _ (by omega), r5]
  simp (disch := omega) only [s93_41, s93_44, s93_45, s93_48, s93_51, s93_52, s93_55, s93_58, s93_59, s93_60, s93_63, s93_64, s93_67, s93_70, s2_0, s2_1, s2_2, s2_5, s59_0, s59_1, s59_2, s59_5, true_or, or_true, or_false, false_or, or_self, Int32.reduceLT, Int32.reduceLE, Nat.add_zero, Nat.zero_add, Nat.not_lt_zero, not_false_eq_true, not_true_eq_false, and_assoc, kl_q, kl_i, kl_r, kl_n, kl_0, kl_l, cs_0, cs_i, cs_r, cs_n, cs_l, aRf_s, aRf_n, gi_wl, gi_wr, gl_wi, gl_wl, gl_wr, gr_wi, gr_wl, gr_wr, sh_wi, sh_wl, sh_wr, gl_cp, gr_cp, sh_cp, gl_rw, gr_rw, sh_rw, gi_rl, gr_rl, sh_rl, Option.toList_some, Option.toList_none, List.nil_append, List.cons_append, List.append_nil, Option.some.injEq, Prod.mk.injEq, and_true, true_and, and_self, if_true, if_false, reduceCtorEq, Nat.reduceLeDiff, Nat.reduceLT, Nat.reduceAdd, Nat.reduceEqDiff, false_and, and_false, exists_const, exists_eq_left, exists_eq_left', exists_and_left, and_assoc, nltL, nltR, nleL, nleR, neqL, neqR, naL, naR, nmL, nmR, nI_ltI, nI_leI, nI_eq, nI_add, nI_mul, nI_clamp, n0l, n0r, nm1, nm1', nm1l, nm1r, nm1g, nsL, nI_m1, Nat.add_sub_cancel, vpn, vpL, nclL, le32, leLL, leLN, leNL, leNN, inA, nb0, nb1, gi_wi_n, gi_wi_e, gi_rw_n, gi_rw_e, aWi_rw, ifl, ifl_, ifle, ifle_, ifq, ifq_, ifnq, ifnq_, ifnl, ifnl_, ifnle, ifnle_, z32 ok, z58 ok, z89 ok, z358 ok, r32_3 ok, r32_7 ok, r32_12 ok, e58]
  obtain ⟨h5, eh5⟩ : ∃ h5, h5 = aWi (aWi (aWi h4 89 2 0) 358 3 0) 32 15 0 := ⟨_, rfl⟩
  rw [← eh5]
  have a5 : Ag (fun a k => (a = 89 ∧ k = 2) ∨ (a = 358 ∧ k = 3) ∨ (a = 32 ∧ k = 15)) h4 h5 := by
    rw [eh5]
    exact (((Ag.refl ok).wi (by omega)).wi (by omega)).wi (by omega)
  have sc73 : StC h3 s.2.2.1.length s.2.2.2.length 73 (svF s) := by
    refine ⟨fun k hk => ?_, fun f hf => ?_, ?_, ?_, ?_, ?_⟩
    · obtain ⟨x1, x2, x3, x4⟩ := f1 k (by omega)
      refine ⟨?_, ?_, ?_, ?_⟩
      · rw [sv_1 (by omega)]
        exact x1.trans (by rw [e3 k 0 (by omega) (by omega), t1 _ _ (by omega), r8 k hk 0 (by omega)])
      · rw [sv_2 (by omega)]
        exact x2.trans (by rw [e3 k 1 (by omega) (by omega), t1 _ _ (by omega), r8 k hk 1 (by omega)])
      · rw [sv_3 (by omega)]
        exact x3.trans (by rw [e3 k 2 (by omega) (by omega), t1 _ _ (by omega), r8 k hk 2 (by omega)])
      · rw [sv_4 (by omega)]
        exact x4
    · rw [sv_5 (by omega)]
      exact (f2 f (by omega)).trans (by rw [e4 f 1 (by omega) (by omega), t1 _ _ (by omega), r9 f hf 1 (by omega)])
    · rw [f3, e2 1 (by omega), t1 _ _ (by omega), r7 1 (by omega)]
      rfl
    · rw [f4, e2 3 (by omega), t1 _ _ (by omega), r7 3 (by omega)]
      rfl
    · rw [f5, e2 4 (by omega), t1 _ _ (by omega), r7 4 (by omega)]
      rfl
    · rw [f6]
      rfl
  have sc79 : StC h4 s.2.2.1.length s.2.2.2.length 79 (svF s) := f7 _ _ _ o1 o2 sc73
  have t5 : ∀ a k, ¬ ((a = 89 ∧ k = 2) ∨ (a = 358 ∧ k = 3) ∨ (a = 32 ∧ k = 15)) → gi h5 a k = gi h4 a k := fun a k z => a5.2 a k z
  have all : Ag BX h h5 := ((((a1.mono (fun a k z => by unfold BX; omega)).trans (a2.mono (fun a k z => by unfold BX; omega))).trans (a3.mono (fun a k z => by unfold BX; omega))).trans (a4.mono (fun a k z => by unfold BZ at z; unfold BX; omega))).trans (a5.mono (fun a k z => by unfold BX; omega))
  refine hq h5 all ⟨?_, ?_, ?_, fun k hk => ?_, fun i k hi hk => ?_, fun i k hi hk => ?_, ?_, ?_, ?_, ?_, ?_⟩
  · rw [t5 _ _ (by omega), a4.2 _ _ (by unfold BZ; omega), a3.2 _ _ (by omega), a2.2 _ _ (by omega), e1]
  · rw [t5 _ _ (by omega), e58]
  · rw [t5 _ _ (by omega), t4 _ _ (by omega) (by omega), e6, t1 _ _ (by omega), r6]
  · rw [t5 _ _ (by omega), t4 _ _ (by omega) (by omega), e2 k hk, t1 _ _ (by omega), r7 k hk]
  · rw [t5 _ _ (by omega), t4 _ _ (by omega) (by omega), e3 i k (by omega) hk, t1 _ _ (by omega), r8 i hi k hk]
  · rw [t5 _ _ (by omega), t4 _ _ (by omega) (by omega), e4 i k (by omega) hk, t1 _ _ (by omega), r9 i hi k hk]
  · exact sc73.eq (fun b k hb => by rw [t5 _ _ (by omega), a4.2 _ _ (by unfold BZ; omega)])
  · exact sc79.eq (fun b k hb => t5 _ _ (by omega))
  · rw [eh5, gi_wi_n (by omega), gi_wi_n (by omega), gi_wi_e]
    rfl
  · rw [eh5, gi_wi_n (by omega), gi_wi_e]
    rfl
  · rw [eh5, gi_wi_e]
def BY (a k : Nat) : Prop := (a = 399 ∧ (k = 25 ∨ k = 26 ∨ k = 38 ∨ k = 44 ∨ k = 49)) ∨ (413 ≤ a ∧ a ≤ 416)
def BgM (h : aM) (s : RS) : Prop := gi h 399 25 = nI s.2.2.1.length ∧ gi h 399 26 = nI s.2.2.2.length ∧ (∀ k, k < 5 → gi h 413 k = nI (s.2.1 k)) ∧ (∀ i k, i < s.2.2.1.length → k < 4 → gi h 414 (4 * i + k) = nI (mf s.2.2.1 i k)) ∧ (∀ i k, i < s.2.2.2.length → k < 2 → gi h 415 (2 * i + k) = nI (mf s.2.2.2 i k)) ∧
  (∀ k, k < 33 → gi h 416 k = svF s k) ∧ gi h 416 33 = 0 ∧ gi h 399 38 = nI 0 ∧ gi h 399 44 = nI 0 ∧ gi h 399 49 = 0
theorem mf_0 {l : List (Nat → Nat)} {i k : Nat} (h : l.length ≤ i) : mf l i k = 0 := by
  unfold mf
  rw [List.getD_eq_getElem?_getD, List.getElem?_eq_none h]
  rfl
theorem m_of {i k : Nat} {x : Int32} (ok : OK h) (hi : i < 6) (hk : k < 4) (e : gi h 414 (4 * i + k) = x) : AW d 206 0 [some (.ref 399), some (.int (nI i)), some (.int (nI k))] [] h Q ↔ Q (some (.int x)) h := by
  have i1 : 4 * i + k < 24 := by omega
  simp (disch := omega) only [s206_0, s206_1, s206_4, s206_5, s206_6, s206_7, s206_8, s206_9, s206_10, true_or, or_true, or_false, false_or, or_self, Int32.reduceLT, Int32.reduceLE, Nat.add_zero, Nat.zero_add, Nat.not_lt_zero, not_false_eq_true, not_true_eq_false, and_assoc, kl_q, kl_i, kl_r, kl_n, kl_0, kl_l, cs_0, cs_i, cs_r, cs_n, cs_l, aRf_s, aRf_n, gi_wl, gi_wr, gl_wi, gl_wl, gl_wr, gr_wi, gr_wl, gr_wr, sh_wi, sh_wl, sh_wr, gl_cp, gr_cp, sh_cp, gl_rw, gr_rw, sh_rw, gi_rl, gr_rl, sh_rl, Option.toList_some, Option.toList_none, List.nil_append, List.cons_append, List.append_nil, Option.some.injEq, Prod.mk.injEq, and_true, true_and, and_self, if_true, if_false, reduceCtorEq, Nat.reduceLeDiff, Nat.reduceLT, Nat.reduceAdd, Nat.reduceEqDiff, false_and, and_false, exists_const, exists_eq_left, exists_eq_left', exists_and_left, and_assoc, nltL, nltR, nleL, nleR, neqL, neqR, naL, naR, nmL, nmR, nI_ltI, nI_leI, nI_eq, nI_add, nI_mul, nI_clamp, n0l, n0r, nm1, nm1', nm1l, nm1r, nm1g, nsL, nI_m1, Nat.add_sub_cancel, vpn, vpL, nclL, le32, leLL, leLN, leNL, leNN, inA, nb0, nb1, gi_wi_n, gi_wi_e, gi_rw_n, gi_rw_e, aWi_rw, ifl, ifl_, ifle, ifle_, ifq, ifq_, ifnq, ifnq_, ifnl, ifnl_, ifnle, ifnle_, z399 ok, z414 ok, r399_23 ok, i1, e]
theorem m_beginR (ok : OK h) (so : RsOk s) (b1 : gi h 399 25 = nI s.2.2.1.length) (b2 : gi h 399 26 = nI s.2.2.2.length) (b3 : ∀ k, k < 5 → gi h 413 k = nI (s.2.1 k)) (b4 : ∀ i k, i < s.2.2.1.length → k < 4 → gi h 414 (4 * i + k) = nI (mf s.2.2.1 i k)) (b5 : ∀ i k, i < s.2.2.2.length → k < 2 → gi h 415 (2 * i + k) = nI (mf s.2.2.2 i k)) (b6 : ∀ k, k < 214 → gi h 416 k = 0)
    (hq : ∀ h', Ag (fun a _ => a = 416) h h' → (∀ k, k < 31 → gi h' 416 k = svF s k) → (∀ k, 31 ≤ k → k < 214 → gi h' 416 k = 0) → Q none h') : AW (d + 1) 203 0 [some (.ref 399), none] [] h Q := by
  have o1 := so.1
  have o2 := so.2.1
  simp (disch := omega) only [s203_0, s203_1, true_or, or_true, or_false, false_or, or_self, Int32.reduceLT, Int32.reduceLE, Nat.add_zero, Nat.zero_add, Nat.not_lt_zero, not_false_eq_true, not_true_eq_false, and_assoc, kl_q, kl_i, kl_r, kl_n, kl_0, kl_l, cs_0, cs_i, cs_r, cs_n, cs_l, aRf_s, aRf_n, gi_wl, gi_wr, gl_wi, gl_wl, gl_wr, gr_wi, gr_wl, gr_wr, sh_wi, sh_wl, sh_wr, gl_cp, gr_cp, sh_cp, gl_rw, gr_rw, sh_rw, gi_rl, gr_rl, sh_rl, Option.toList_some, Option.toList_none, List.nil_append, List.cons_append, List.append_nil, Option.some.injEq, Prod.mk.injEq, and_true, true_and, and_self, if_true, if_false, reduceCtorEq, Nat.reduceLeDiff, Nat.reduceLT, Nat.reduceAdd, Nat.reduceEqDiff, false_and, and_false, exists_const, exists_eq_left, exists_eq_left', exists_and_left, and_assoc, nltL, nltR, nleL, nleR, neqL, neqR, naL, naR, nmL, nmR, nI_ltI, nI_leI, nI_eq, nI_add, nI_mul, nI_clamp, n0l, n0r, nm1, nm1', nm1l, nm1r, nm1g, nsL, nI_m1, Nat.add_sub_cancel, vpn, vpL, nclL, le32, leLL, leLN, leNL, leNN, inA, nb0, nb1, gi_wi_n, gi_wi_e, gi_rw_n, gi_rw_e, aWi_rw, ifl, ifl_, ifle, ifle_, ifq, ifq_, ifnq, ifnq_, ifnl, ifnl_, ifnle, ifnle_]
  refine aLoop s.2.2.1.length (fun j lv h' => lv = [some (.ref 399), some (.int (nI j))] ∧ Ag (fun a _ => a = 416) h h' ∧ (∀ k, k < j → gi h' 416 k = nI (mf s.2.2.1 k 0) ∧ gi h' 416 (6 + k) = nI (mf s.2.2.1 k 1) ∧ gi h' 416 (12 + k) = nI (mf s.2.2.1 k 2)) ∧ (∀ k, j ≤ k → k < 6 → gi h' 416 k = 0 ∧ gi h' 416 (6 + k) = 0 ∧ gi h' 416 (12 + k) = 0) ∧ ∀ k, 18 ≤ k → k < 214 → gi h' 416 k = 0) ?_ ?_ 0 _ _ (Nat.zero_le _) ⟨rfl, Ag.refl ok, fun k hk => absurd hk (Nat.not_lt_zero _), fun k _ hk => ⟨b6 k (by omega), b6 (6 + k) (by omega), b6 (12 + k) (by omega)⟩, fun k _ hk => b6 k hk⟩
  · rintro j lv h' hj ⟨rfl, a2, e2, e3, e4⟩ hk
    have ok := a2.1
    have c1 : gi h' 399 25 = nI s.2.2.1.length := by rw [a2.2 _ _ (by omega), b1]
    have c0 : gi h' 414 (4 * j + 0) = nI (mf s.2.2.1 j 0) := by rw [a2.2 _ _ (by omega), b4 j 0 hj (by omega)]
    have c2 : gi h' 414 (4 * j + 1) = nI (mf s.2.2.1 j 1) := by rw [a2.2 _ _ (by omega), b4 j 1 hj (by omega)]
    have c3 : gi h' 414 (4 * j + 2) = nI (mf s.2.2.1 j 2) := by rw [a2.2 _ _ (by omega), b4 j 2 hj (by omega)]
    have n1 : ¬ s.2.2.1.length ≤ j := by omega
    have i1 : j < 214 := by omega
    have i2 : 6 + j < 214 := by omega
    have i3 : 12 + j < 214 := by omega
    have j6 : j < 6 := by omega
    have m0 := fun (Q : Option Value → aM → Prop) => m_of (d := d) (h := h') (Q := Q) (i := j) (k := 0) ok j6 (by omega) c0
    rw [s203_2]
    simp (disch := omega) only [s203_3, s203_4, s203_7, s203_10, s203_11, s203_14, s203_15, s203_16, s203_17, s203_18, s203_19, s203_20, true_or, or_true, or_false, false_or, or_self, Int32.reduceLT, Int32.reduceLE, Nat.add_zero, Nat.zero_add, Nat.not_lt_zero, not_false_eq_true, not_true_eq_false, and_assoc, kl_q, kl_i, kl_r, kl_n, kl_0, kl_l, cs_0, cs_i, cs_r, cs_n, cs_l, aRf_s, aRf_n, gi_wl, gi_wr, gl_wi, gl_wl, gl_wr, gr_wi, gr_wl, gr_wr, sh_wi, sh_wl, sh_wr, gl_cp, gr_cp, sh_cp, gl_rw, gr_rw, sh_rw, gi_rl, gr_rl, sh_rl, Option.toList_some, Option.toList_none, List.nil_append, List.cons_append, List.append_nil, Option.some.injEq, Prod.mk.injEq, and_true, true_and, and_self, if_true, if_false, reduceCtorEq, Nat.reduceLeDiff, Nat.reduceLT, Nat.reduceAdd, Nat.reduceEqDiff, false_and, and_false, exists_const, exists_eq_left, exists_eq_left', exists_and_left, and_assoc, nltL, nltR, nleL, nleR, neqL, neqR, naL, naR, nmL, nmR, nI_ltI, nI_leI, nI_eq, nI_add, nI_mul, nI_clamp, n0l, n0r, nm1, nm1', nm1l, nm1r, nm1g, nsL, nI_m1, Nat.add_sub_cancel, vpn, vpL, nclL, le32, leLL, leLN, leNL, leNN, inA, nb0, nb1, gi_wi_n, gi_wi_e, gi_rw_n, gi_rw_e, aWi_rw, ifl, ifl_, ifle, ifle_, ifq, ifq_, ifnq, ifnq_, ifnl, ifnl_, ifnle, ifnle_, z399 ok, r399_27 ok, n1, c1]
    refine (m0 _).mpr ?_
    simp (disch := omega) only [s203_20, s203_23, s203_24, s203_25, s203_28, s203_30, s203_31, s203_32, s203_33, s203_34, s203_35, true_or, or_true, or_false, false_or, or_self, Int32.reduceLT, Int32.reduceLE, Nat.add_zero, Nat.zero_add, Nat.not_lt_zero, not_false_eq_true, not_true_eq_false, and_assoc, kl_q, kl_i, kl_r, kl_n, kl_0, kl_l, cs_0, cs_i, cs_r, cs_n, cs_l, aRf_s, aRf_n, gi_wl, gi_wr, gl_wi, gl_wl, gl_wr, gr_wi, gr_wl, gr_wr, sh_wi, sh_wl, sh_wr, gl_cp, gr_cp, sh_cp, gl_rw, gr_rw, sh_rw, gi_rl, gr_rl, sh_rl, Option.toList_some, Option.toList_none, List.nil_append, List.cons_append, List.append_nil, Option.some.injEq, Prod.mk.injEq, and_true, true_and, and_self, if_true, if_false, reduceCtorEq, Nat.reduceLeDiff, Nat.reduceLT, Nat.reduceAdd, Nat.reduceEqDiff, false_and, and_false, exists_const, exists_eq_left, exists_eq_left', exists_and_left, and_assoc, nltL, nltR, nleL, nleR, neqL, neqR, naL, naR, nmL, nmR, nI_ltI, nI_leI, nI_eq, nI_add, nI_mul, nI_clamp, n0l, n0r, nm1, nm1', nm1l, nm1r, nm1g, nsL, nI_m1, Nat.add_sub_cancel, vpn, vpL, nclL, le32, leLL, leLN, leNL, leNN, inA, nb0, nb1, gi_wi_n, gi_wi_e, gi_rw_n, gi_rw_e, aWi_rw, ifl, ifl_, ifle, ifle_, ifq, ifq_, ifnq, ifnq_, ifnl, ifnl_, ifnle, ifnle_, z399 ok, z416 ok, r399_27 ok, i1]
    have ok2 : OK (aWi h' 416 j (nI (mf s.2.2.1 j 0))) := ok
    refine (m_of (k := 1) ok2 j6 (by omega) (show gi _ 414 (4 * j + 1) = nI (mf s.2.2.1 j 1) by rw [gi_wi_n (by omega), c2])).mpr ?_
    simp (disch := omega) only [s203_35, s203_38, s203_39, s203_40, s203_43, s203_45, s203_46, s203_47, s203_48, s203_49, s203_50, true_or, or_true, or_false, false_or, or_self, Int32.reduceLT, Int32.reduceLE, Nat.add_zero, Nat.zero_add, Nat.not_lt_zero, not_false_eq_true, not_true_eq_false, and_assoc, kl_q, kl_i, kl_r, kl_n, kl_0, kl_l, cs_0, cs_i, cs_r, cs_n, cs_l, aRf_s, aRf_n, gi_wl, gi_wr, gl_wi, gl_wl, gl_wr, gr_wi, gr_wl, gr_wr, sh_wi, sh_wl, sh_wr, gl_cp, gr_cp, sh_cp, gl_rw, gr_rw, sh_rw, gi_rl, gr_rl, sh_rl, Option.toList_some, Option.toList_none, List.nil_append, List.cons_append, List.append_nil, Option.some.injEq, Prod.mk.injEq, and_true, true_and, and_self, if_true, if_false, reduceCtorEq, Nat.reduceLeDiff, Nat.reduceLT, Nat.reduceAdd, Nat.reduceEqDiff, false_and, and_false, exists_const, exists_eq_left, exists_eq_left', exists_and_left, and_assoc, nltL, nltR, nleL, nleR, neqL, neqR, naL, naR, nmL, nmR, nI_ltI, nI_leI, nI_eq, nI_add, nI_mul, nI_clamp, n0l, n0r, nm1, nm1', nm1l, nm1r, nm1g, nsL, nI_m1, Nat.add_sub_cancel, vpn, vpL, nclL, le32, leLL, leLN, leNL, leNN, inA, nb0, nb1, gi_wi_n, gi_wi_e, gi_rw_n, gi_rw_e, aWi_rw, ifl, ifl_, ifle, ifle_, ifq, ifq_, ifnq, ifnq_, ifnl, ifnl_, ifnle, ifnle_, z399 ok, z416 ok, r399_27 ok, i2]
    have ok3 : OK (aWi (aWi h' 416 j (nI (mf s.2.2.1 j 0))) 416 (6 + j) (nI (mf s.2.2.1 j 1))) := ok
    refine (m_of (k := 2) ok3 j6 (by omega) (show gi _ 414 (4 * j + 2) = nI (mf s.2.2.1 j 2) by rw [gi_wi_n (by omega), gi_wi_n (by omega), c3])).mpr ?_
    simp (disch := omega) only [s203_50, s203_53, s203_54, s203_57, true_or, or_true, or_false, false_or, or_self, Int32.reduceLT, Int32.reduceLE, Nat.add_zero, Nat.zero_add, Nat.not_lt_zero, not_false_eq_true, not_true_eq_false, and_assoc, kl_q, kl_i, kl_r, kl_n, kl_0, kl_l, cs_0, cs_i, cs_r, cs_n, cs_l, aRf_s, aRf_n, gi_wl, gi_wr, gl_wi, gl_wl, gl_wr, gr_wi, gr_wl, gr_wr, sh_wi, sh_wl, sh_wr, gl_cp, gr_cp, sh_cp, gl_rw, gr_rw, sh_rw, gi_rl, gr_rl, sh_rl, Option.toList_some, Option.toList_none, List.nil_append, List.cons_append, List.append_nil, Option.some.injEq, Prod.mk.injEq, and_true, true_and, and_self, if_true, if_false, reduceCtorEq, Nat.reduceLeDiff, Nat.reduceLT, Nat.reduceAdd, Nat.reduceEqDiff, false_and, and_false, exists_const, exists_eq_left, exists_eq_left', exists_and_left, and_assoc, nltL, nltR, nleL, nleR, neqL, neqR, naL, naR, nmL, nmR, nI_ltI, nI_leI, nI_eq, nI_add, nI_mul, nI_clamp, n0l, n0r, nm1, nm1', nm1l, nm1r, nm1g, nsL, nI_m1, Nat.add_sub_cancel, vpn, vpL, nclL, le32, leLL, leLN, leNL, leNN, inA, nb0, nb1, gi_wi_n, gi_wi_e, gi_rw_n, gi_rw_e, aWi_rw, ifl, ifl_, ifle, ifle_, ifq, ifq_, ifnq, ifnq_, ifnl, ifnl_, ifnle, ifnle_, z399 ok, z416 ok, r399_27 ok, i3]
    refine hk _ _ ⟨rfl, ((a2.wi rfl).wi rfl).wi rfl, fun k hk2 => ?_, fun k hk1 hk2 => ?_, fun k hk1 hk2 => ?_⟩
    · by_cases hkj : k = j
      · subst hkj
        refine ⟨?_, ?_, ?_⟩
        · rw [gi_wi_n (by omega), gi_wi_n (by omega), gi_wi_e]
        · rw [gi_wi_n (by omega), gi_wi_e]
        · rw [gi_wi_e]
      · obtain ⟨x1, x2, x3⟩ := e2 k (by omega)
        refine ⟨?_, ?_, ?_⟩
        · rw [gi_wi_n (by omega), gi_wi_n (by omega), gi_wi_n (by omega), x1]
        · rw [gi_wi_n (by omega), gi_wi_n (by omega), gi_wi_n (by omega), x2]
        · rw [gi_wi_n (by omega), gi_wi_n (by omega), gi_wi_n (by omega), x3]
    · obtain ⟨x1, x2, x3⟩ := e3 k (by omega) hk2
      refine ⟨?_, ?_, ?_⟩
      · rw [gi_wi_n (by omega), gi_wi_n (by omega), gi_wi_n (by omega), x1]
      · rw [gi_wi_n (by omega), gi_wi_n (by omega), gi_wi_n (by omega), x2]
      · rw [gi_wi_n (by omega), gi_wi_n (by omega), gi_wi_n (by omega), x3]
    · rw [gi_wi_n (by omega), gi_wi_n (by omega), gi_wi_n (by omega)]
      exact e4 k hk1 hk2
  · rintro lv h2 ⟨rfl, a2, e2, e3, e4⟩
    have ok := a2.1
    have c1 : gi h2 399 25 = nI s.2.2.1.length := by rw [a2.2 _ _ (by omega), b1]
    rw [s203_2]
    simp (disch := omega) only [s203_3, s203_4, s203_7, s203_10, s203_11, s203_14, s203_15, s203_16, s203_17, s203_18, s203_19, s203_20, s203_23, s203_24, s203_25, s203_28, s203_30, s203_31, s203_32, s203_33, s203_34, s203_35, s203_38, s203_39, s203_40, s203_43, s203_45, s203_46, s203_47, s203_48, s203_49, s203_50, s203_53, s203_54, s203_57, s203_60, s203_61, true_or, or_true, or_false, false_or, or_self, Int32.reduceLT, Int32.reduceLE, Nat.add_zero, Nat.zero_add, Nat.not_lt_zero, not_false_eq_true, not_true_eq_false, and_assoc, kl_q, kl_i, kl_r, kl_n, kl_0, kl_l, cs_0, cs_i, cs_r, cs_n, cs_l, aRf_s, aRf_n, gi_wl, gi_wr, gl_wi, gl_wl, gl_wr, gr_wi, gr_wl, gr_wr, sh_wi, sh_wl, sh_wr, gl_cp, gr_cp, sh_cp, gl_rw, gr_rw, sh_rw, gi_rl, gr_rl, sh_rl, Option.toList_some, Option.toList_none, List.nil_append, List.cons_append, List.append_nil, Option.some.injEq, Prod.mk.injEq, and_true, true_and, and_self, if_true, if_false, reduceCtorEq, Nat.reduceLeDiff, Nat.reduceLT, Nat.reduceAdd, Nat.reduceEqDiff, false_and, and_false, exists_const, exists_eq_left, exists_eq_left', exists_and_left, and_assoc, nltL, nltR, nleL, nleR, neqL, neqR, naL, naR, nmL, nmR, nI_ltI, nI_leI, nI_eq, nI_add, nI_mul, nI_clamp, n0l, n0r, nm1, nm1', nm1l, nm1r, nm1g, nsL, nI_m1, Nat.add_sub_cancel, vpn, vpL, nclL, le32, leLL, leLN, leNL, leNN, inA, nb0, nb1, gi_wi_n, gi_wi_e, gi_rw_n, gi_rw_e, aWi_rw, ifl, ifl_, ifle, ifle_, ifq, ifq_, ifnq, ifnq_, ifnl, ifnl_, ifnle, ifnle_, z399 ok, c1, Nat.le_refl]
    refine aLoop s.2.2.2.length (fun j lv h' => lv = [some (.ref 399), some (.int (nI j))] ∧ Ag (fun a _ => a = 416) h h' ∧ (∀ k, k < 24 → gi h' 416 k = gi h2 416 k) ∧ (∀ k, k < j → gi h' 416 (24 + k) = nI (mf s.2.2.2 k 1)) ∧ (∀ k, j ≤ k → k < 5 → gi h' 416 (24 + k) = 0) ∧ ∀ k, 29 ≤ k → k < 214 → gi h' 416 k = 0) ?_ ?_ 0 _ _ (Nat.zero_le _) ⟨rfl, a2, fun _ _ => rfl, fun k hk => absurd hk (Nat.not_lt_zero _), fun k _ hk => e4 _ (by omega) (by omega), fun k h1 h2 => e4 k (by omega) h2⟩
    · rintro j lv h' hj ⟨rfl, a3, g1, g2, g3, g4⟩ hk
      have ok := a3.1
      have c2 : gi h' 399 26 = nI s.2.2.2.length := by rw [a3.2 _ _ (by omega), b2]
      have c3 : gi h' 415 (2 * j + 1) = nI (mf s.2.2.2 j 1) := by rw [a3.2 _ _ (by omega), b5 j 1 hj (by omega)]
      have n1 : ¬ s.2.2.2.length ≤ j := by omega
      have i1 : 24 + j < 214 := by omega
      have i2 : 2 * j + 1 < 10 := by omega
      rw [s203_62]
      simp (disch := omega) only [s203_63, s203_64, s203_67, s203_70, s203_71, s203_74, s203_76, s203_77, s203_78, s203_79, s203_82, s203_83, s203_84, s203_85, s203_86, s203_87, s203_88, s203_89, s203_92, true_or, or_true, or_false, false_or, or_self, Int32.reduceLT, Int32.reduceLE, Nat.add_zero, Nat.zero_add, Nat.not_lt_zero, not_false_eq_true, not_true_eq_false, and_assoc, kl_q, kl_i, kl_r, kl_n, kl_0, kl_l, cs_0, cs_i, cs_r, cs_n, cs_l, aRf_s, aRf_n, gi_wl, gi_wr, gl_wi, gl_wl, gl_wr, gr_wi, gr_wl, gr_wr, sh_wi, sh_wl, sh_wr, gl_cp, gr_cp, sh_cp, gl_rw, gr_rw, sh_rw, gi_rl, gr_rl, sh_rl, Option.toList_some, Option.toList_none, List.nil_append, List.cons_append, List.append_nil, Option.some.injEq, Prod.mk.injEq, and_true, true_and, and_self, if_true, if_false, reduceCtorEq, Nat.reduceLeDiff, Nat.reduceLT, Nat.reduceAdd, Nat.reduceEqDiff, false_and, and_false, exists_const, exists_eq_left, exists_eq_left', exists_and_left, and_assoc, nltL, nltR, nleL, nleR, neqL, neqR, naL, naR, nmL, nmR, nI_ltI, nI_leI, nI_eq, nI_add, nI_mul, nI_clamp, n0l, n0r, nm1, nm1', nm1l, nm1r, nm1g, nsL, nI_m1, Nat.add_sub_cancel, vpn, vpL, nclL, le32, leLL, leLN, leNL, leNN, inA, nb0, nb1, gi_wi_n, gi_wi_e, gi_rw_n, gi_rw_e, aWi_rw, ifl, ifl_, ifle, ifle_, ifq, ifq_, ifnq, ifnq_, ifnl, ifnl_, ifnle, ifnle_, z399 ok, z415 ok, z416 ok, r399_24 ok, r399_27 ok, n1, c2, c3, i1, i2]
      refine hk _ _ ⟨rfl, a3.wi rfl, fun k hk2 => ?_, fun k hk2 => ?_, fun k hk1 hk2 => ?_, fun k hk1 hk2 => ?_⟩
      · rw [gi_wi_n (by omega), g1 k hk2]
      · by_cases hkj : k = j
        · subst hkj
          rw [gi_wi_e]
        · rw [gi_wi_n (by omega)]
          exact g2 k (by omega)
      · rw [gi_wi_n (by omega)]
        exact g3 k (by omega) hk2
      · rw [gi_wi_n (by omega)]
        exact g4 k hk1 hk2
    · rintro lv h3 ⟨rfl, a3, g1, g2, g3, g4⟩
      have ok := a3.1
      have c2 : gi h3 399 26 = nI s.2.2.2.length := by rw [a3.2 _ _ (by omega), b2]
      have v1 : gi h3 413 1 = nI (s.2.1 1) := by rw [a3.2 _ _ (by omega), b3 1 (by omega)]
      have v3 : gi h3 413 3 = nI (s.2.1 3) := by rw [a3.2 _ _ (by omega), b3 3 (by omega)]
      rw [s203_62]
      simp (disch := omega) only [s203_63, s203_64, s203_67, s203_70, s203_71, s203_74, s203_76, s203_77, s203_78, s203_79, s203_82, s203_83, s203_84, s203_85, s203_86, s203_87, s203_88, s203_89, s203_92, s203_95, s203_96, s203_99, s203_101, s203_102, s203_105, s203_106, s203_107, s203_108, s203_109, s203_112, s203_114, s203_115, s203_118, s203_119, s203_120, s203_121, true_or, or_true, or_false, false_or, or_self, Int32.reduceLT, Int32.reduceLE, Nat.add_zero, Nat.zero_add, Nat.not_lt_zero, not_false_eq_true, not_true_eq_false, and_assoc, kl_q, kl_i, kl_r, kl_n, kl_0, kl_l, cs_0, cs_i, cs_r, cs_n, cs_l, aRf_s, aRf_n, gi_wl, gi_wr, gl_wi, gl_wl, gl_wr, gr_wi, gr_wl, gr_wr, sh_wi, sh_wl, sh_wr, gl_cp, gr_cp, sh_cp, gl_rw, gr_rw, sh_rw, gi_rl, gr_rl, sh_rl, Option.toList_some, Option.toList_none, List.nil_append, List.cons_append, List.append_nil, Option.some.injEq, Prod.mk.injEq, and_true, true_and, and_self, if_true, if_false, reduceCtorEq, Nat.reduceLeDiff, Nat.reduceLT, Nat.reduceAdd, Nat.reduceEqDiff, false_and, and_false, exists_const, exists_eq_left, exists_eq_left', exists_and_left, and_assoc, nltL, nltR, nleL, nleR, neqL, neqR, naL, naR, nmL, nmR, nI_ltI, nI_leI, nI_eq, nI_add, nI_mul, nI_clamp, n0l, n0r, nm1, nm1', nm1l, nm1r, nm1g, nsL, nI_m1, Nat.add_sub_cancel, vpn, vpL, nclL, le32, leLL, leLN, leNL, leNN, inA, nb0, nb1, gi_wi_n, gi_wi_e, gi_rw_n, gi_rw_e, aWi_rw, ifl, ifl_, ifle, ifle_, ifq, ifq_, ifnq, ifnq_, ifnl, ifnl_, ifnle, ifnle_, z399 ok, z413 ok, z416 ok, r399_22 ok, r399_27 ok, c2, v1, v3, Nat.le_refl]
      refine hq _ ((a3.wi rfl).wi rfl) (fun k hk => ?_) (fun k hk1 hk2 => ?_)
      · by_cases k30 : k = 30
        · subst k30
          rw [gi_wi_e]
          rfl
        · rw [gi_wi_n (by omega)]
          by_cases k29 : k = 29
          · subst k29
            rw [gi_wi_e]
            rfl
          · rw [gi_wi_n (by omega)]
            by_cases k24 : k < 24
            · rw [g1 k k24]
              by_cases z1 : k < 6
              · rw [sv_1 z1]
                by_cases zl : k < s.2.2.1.length
                · exact (e2 k zl).1
                · rw [mf_0 (by omega)]
                  exact (e3 k (by omega) z1).1
              · by_cases z2 : k < 12
                · obtain ⟨i, rfl⟩ : ∃ i, k = 6 + i := ⟨k - 6, by omega⟩
                  rw [sv_2 (by omega)]
                  by_cases zl : i < s.2.2.1.length
                  · exact (e2 i zl).2.1
                  · rw [mf_0 (by omega)]
                    exact (e3 i (by omega) (by omega)).2.1
                · by_cases z3 : k < 18
                  · obtain ⟨i, rfl⟩ : ∃ i, k = 12 + i := ⟨k - 12, by omega⟩
                    rw [sv_3 (by omega)]
                    by_cases zl : i < s.2.2.1.length
                    · exact (e2 i zl).2.2
                    · rw [mf_0 (by omega)]
                      exact (e3 i (by omega) (by omega)).2.2
                  · obtain ⟨i, rfl⟩ : ∃ i, k = 18 + i := ⟨k - 18, by omega⟩
                    rw [sv_4 (by omega)]
                    exact e4 _ (by omega) (by omega)
            · obtain ⟨i, rfl⟩ : ∃ i, k = 24 + i := ⟨k - 24, by omega⟩
              rw [sv_5 (by omega)]
              by_cases zl : i < s.2.2.2.length
              · exact g2 i zl
              · rw [mf_0 (by omega)]
                exact g3 i (by omega) (by omega)
      · rw [gi_wi_n (by omega), gi_wi_n (by omega)]
        exact g4 k (by omega) hk2
end B2
