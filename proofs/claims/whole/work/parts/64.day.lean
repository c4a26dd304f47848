-- deps: 63.feed
/-! ===== days ===== -/
/-- the abstract state: now, day, count of acts, acts kept, their days, the log -/
abbrev Ab : Type := (Nat → Int32) × Nat × Nat × (Nat → Nat → Int32) × (Nat → Nat) × (Nat → Nat → Int32)
def vS (s : Nat → Int32) : Nat → Int32 := fun k => s (6 + k)
def dS (s : Nat → Int32) : Nat → Int32 := fun f => s (24 + f)
def rwS (g : aM) (M F L W : Nat) (s : Nat → Int32) : List Wd := rdA (hdG g F s (vS s) (dS s) (cN (s 29)) (s 30)) M L (cN (s 29)) (s 30) W
def dyS (M : Nat) (ws : List Wd) (s : Nat → Int32) (k : Nat) : Int32 := if 18 ≤ k ∧ k < 18 + M then imin 9999 (s k + nI (cnt ws (k - 18))) else if k = 31 then imin 999 (s 31 + ibc (nb ws M)) else if k = 32 then s 32 + 1 else s k
def lnS (M : Nat) (ws : List Wd) (w : Nat) : Int32 := if w = 0 then nI ws.length else if w = 1 then nI (slp ws) else nb ws M
def lgS (lg : Nat → Nat → Int32) (D M : Nat) (ws : List Wd) (e w : Nat) : Int32 := if e = D then lnS M ws w else lg e w
/-- a day: kept, s' is what is then ridden with -/
def dyQ (g : aM) (M F L W : Nat) (q : Ab) (s' : Nat → Int32) : Ab := (dyS M (rwS g M F L W s') s', q.2.1 + 1, min 40 (q.2.2.1 + 1), kpK q.2.2.1 q.2.2.2.1 q.1, kpD q.2.2.1 q.2.2.2.2.1 (q.2.1 + 1), lgS q.2.2.2.2.2 q.2.1 M (rwS g M F L W s'))
def CR (h : aM) (M F : Nat) (q : Ab) : Prop := ∃ nx, nx < 40 ∧ StC h M F 79 q.1 ∧ KC h M F q.2.2.1 nx q.2.2.2.1 ∧ DiR h q.2.2.2.2.2 86 q.2.1 (q.2.2.2.2.1 0)
def MR (h : aM) (q : Ab) : Prop := StM h q.2.2.2.2.2 416 0 q.1 q.2.1 ∧ KM h q.2.2.2.2.2 q.2.2.1 q.2.2.2.1 q.2.2.2.2.1
def AB (M : Nat) (q : Ab) : Prop := SB M q.1 q.2.1 ∧ ∀ nx, nx < 40 → KB M q.2.2.1 nx q.2.1 q.2.2.2.1 q.2.2.2.2.1
def CDZ (a k : Nat) : Prop := (79 ≤ a ∧ a ≤ 330) ∨ ScrP a k
section D1
variable {d : Nat} {g h : aM} {Q : Option Value → aM → Prop} {M F L W N D c nx n T P : Nat} {s : Nat → Int32} {lg ks : Nat → Nat → Int32} {Dk : Nat → Nat}
theorem nCT {a k : Nat} (h : TZ a k) : ¬ CDZ a k := fun z => z.elim (fun y => by unfold TZ at h; omega) (nS4 h)
theorem sb_pb (sb : SB M s D) (hP : s 29 = nI P) (P1 : 1 ≤ P) (P5 : P ≤ 5) : PB M s (vS s) P (s 30) := ⟨fun k hk => ⟨(sb.1 k hk).1, (sb.1 k hk).2.1⟩, P1, P5, sb.2.2.1⟩
theorem c_rideC (it : ITold h M F L W) (il : ILaw h N) (ok : OK h) (st : StC h M F 79 s) (sb : SB M s D) (hP : s 29 = nI P) (P1 : 1 ≤ P) (P5 : P ≤ 5) (hq : ∀ h', Crs h h' M F L s (vS s) (dS s) P (s 30) → GoP h' (rdA (hdG h F s (vS s) (dS s) P (s 30)) M L P (s 30) W) → Q none h') : AW (d + 6) 129 0 [some (.ref 32)] [] h Q := by
  have pb := sb_pb sb hP P1 P5
  have sa : Same h h := Same.refl ok
  simp (disch := omega) only [s129_0, s129_1, s129_4, s129_5, s129_8, s129_9, s129_12, s129_15, s128_0, s128_1, s128_4, s128_5, s128_8, s128_9, s128_10, s128_13, s128_16, s128_19, s126_0, s126_1, s126_4, s126_5, s126_8, s126_9, s126_12, s126_13, s126_16, s126_19, true_or, or_true, or_false, false_or, or_self, Int32.reduceLT, Int32.reduceLE, Nat.add_zero, Nat.zero_add, Nat.not_lt_zero, not_false_eq_true, not_true_eq_false, and_assoc, kl_q, kl_i, kl_r, kl_n, kl_0, kl_l, cs_0, cs_i, cs_r, cs_n, cs_l, aRf_s, aRf_n, gi_wl, gi_wr, gl_wi, gl_wl, gl_wr, gr_wi, gr_wl, gr_wr, sh_wi, sh_wl, sh_wr, gl_cp, gr_cp, sh_cp, gl_rw, gr_rw, sh_rw, gi_rl, gr_rl, sh_rl, Option.toList_some, Option.toList_none, List.nil_append, List.cons_append, List.append_nil, Option.some.injEq, Prod.mk.injEq, and_true, true_and, and_self, if_true, if_false, reduceCtorEq, Nat.reduceLeDiff, Nat.reduceLT, Nat.reduceAdd, Nat.reduceEqDiff, false_and, and_false, exists_const, exists_eq_left, exists_eq_left', exists_and_left, and_assoc, nltL, nltR, nleL, nleR, neqL, neqR, naL, naR, nmL, nmR, nI_ltI, nI_leI, nI_eq, nI_add, nI_mul, nI_clamp, n0l, n0r, nm1, nm1', nm1l, nm1r, nm1g, nsL, nI_m1, Nat.add_sub_cancel, vpn, vpL, nclL, le32, leLL, leLN, leNL, leNN, inA, nb0, nb1, gi_wi_n, gi_wi_e, gi_rw_n, gi_rw_e, aWi_rw, ifl, ifl_, ifle, ifle_, ifq, ifq_, ifnq, ifnq_, ifnl, ifnl_, ifnle, ifnle_, z32 ok, r32_11 ok, r32_3 ok, r32_5 ok]
  refine c_law il sa ?_
  simp (disch := omega) only [s126_0, s126_1, s126_4, s126_5, s126_8, s126_9, s126_12, s126_13, s126_16, s126_19, true_or, or_true, or_false, false_or, or_self, Int32.reduceLT, Int32.reduceLE, Nat.add_zero, Nat.zero_add, Nat.not_lt_zero, not_false_eq_true, not_true_eq_false, and_assoc, kl_q, kl_i, kl_r, kl_n, kl_0, kl_l, cs_0, cs_i, cs_r, cs_n, cs_l, aRf_s, aRf_n, gi_wl, gi_wr, gl_wi, gl_wl, gl_wr, gr_wi, gr_wl, gr_wr, sh_wi, sh_wl, sh_wr, gl_cp, gr_cp, sh_cp, gl_rw, gr_rw, sh_rw, gi_rl, gr_rl, sh_rl, Option.toList_some, Option.toList_none, List.nil_append, List.cons_append, List.append_nil, Option.some.injEq, Prod.mk.injEq, and_true, true_and, and_self, if_true, if_false, reduceCtorEq, Nat.reduceLeDiff, Nat.reduceLT, Nat.reduceAdd, Nat.reduceEqDiff, false_and, and_false, exists_const, exists_eq_left, exists_eq_left', exists_and_left, and_assoc, nltL, nltR, nleL, nleR, neqL, neqR, naL, naR, nmL, nmR, nI_ltI, nI_leI, nI_eq, nI_add, nI_mul, nI_clamp, n0l, n0r, nm1, nm1', nm1l, nm1r, nm1g, nsL, nI_m1, Nat.add_sub_cancel, vpn, vpL, nclL, le32, leLL, leLN, leNL, leNN, inA, nb0, nb1, gi_wi_n, gi_wi_e, gi_rw_n, gi_rw_e, aWi_rw, ifl, ifl_, ifle, ifle_, ifq, ifq_, ifnq, ifnq_, ifnl, ifnl_, ifnle, ifnle_, z342 ok]
  refine c_setOut79 (st := s) (vo := vS s) (dp := dS s) (P := P) (mud := s 30) it sa (fun k hk => ⟨(st.1 k hk).1, (st.1 k hk).2.1⟩) (fun f hf => st.2.1 f hf) (by rw [st.2.2.1, hP]) st.2.2.2.1 (fun h2 co => ?_)
  have ok := co.1.1
  have a1 : gi h2 58 3 = nI M := by rw [co.1.2 _ _ rfl, it.2.2.2.2.2.1]
  simp (disch := omega) only [s126_0, s126_1, s126_4, s126_5, s126_8, s126_9, s126_12, s126_13, s126_16, s126_19, s128_0, s128_1, s128_4, s128_5, s128_8, s128_9, s128_10, s128_13, s128_16, s128_19, true_or, or_true, or_false, false_or, or_self, Int32.reduceLT, Int32.reduceLE, Nat.add_zero, Nat.zero_add, Nat.not_lt_zero, not_false_eq_true, not_true_eq_false, and_assoc, kl_q, kl_i, kl_r, kl_n, kl_0, kl_l, cs_0, cs_i, cs_r, cs_n, cs_l, aRf_s, aRf_n, gi_wl, gi_wr, gl_wi, gl_wl, gl_wr, gr_wi, gr_wl, gr_wr, sh_wi, sh_wl, sh_wr, gl_cp, gr_cp, sh_cp, gl_rw, gr_rw, sh_rw, gi_rl, gr_rl, sh_rl, Option.toList_some, Option.toList_none, List.nil_append, List.cons_append, List.append_nil, Option.some.injEq, Prod.mk.injEq, and_true, true_and, and_self, if_true, if_false, reduceCtorEq, Nat.reduceLeDiff, Nat.reduceLT, Nat.reduceAdd, Nat.reduceEqDiff, false_and, and_false, exists_const, exists_eq_left, exists_eq_left', exists_and_left, and_assoc, nltL, nltR, nleL, nleR, neqL, neqR, naL, naR, nmL, nmR, nI_ltI, nI_leI, nI_eq, nI_add, nI_mul, nI_clamp, n0l, n0r, nm1, nm1', nm1l, nm1r, nm1g, nsL, nI_m1, Nat.add_sub_cancel, vpn, vpL, nclL, le32, leLL, leLN, leNL, leNN, inA, nb0, nb1, gi_wi_n, gi_wi_e, gi_rw_n, gi_rw_e, aWi_rw, ifl, ifl_, ifle, ifle_, ifq, ifq_, ifnq, ifnq_, ifnl, ifnl_, ifnle, ifnle_, z32 ok, z58 ok, z342 ok, r32_3 ok, r32_11 ok, a1]
  refine c_hear (m0 := 0) it il pb co (Nat.zero_le _) (Nat.le_refl _) (fun h3 f1 f2 f3 => ?_)
  have cr : Crs h h3 M F L s (vS s) (dS s) P (s 30) := ⟨co.fr f1 hearX_scr ⟨rfl, rfl, rfl, rfl⟩ (fun k => ⟨rfl, rfl, rfl, rfl⟩), fun m hm j hj => f2 m (Nat.zero_le _) hm j hj⟩
  have ok := cr.1.1.1
  have a1 : gi h3 59 2 = nI W := by rw [cr.1.1.2 _ _ rfl, it.2.2.2.2.2.2.2.2.2.2.2.1]
  simp (disch := omega) only [s128_0, s128_1, s128_4, s128_5, s128_8, s128_9, s128_10, s128_13, s128_16, s128_19, s129_0, s129_1, s129_4, s129_5, s129_8, s129_9, s129_12, s129_15, s106_0, s106_1, s106_4, s106_7, s106_8, s106_9, true_or, or_true, or_false, false_or, or_self, Int32.reduceLT, Int32.reduceLE, Nat.add_zero, Nat.zero_add, Nat.not_lt_zero, not_false_eq_true, not_true_eq_false, and_assoc, kl_q, kl_i, kl_r, kl_n, kl_0, kl_l, cs_0, cs_i, cs_r, cs_n, cs_l, aRf_s, aRf_n, gi_wl, gi_wr, gl_wi, gl_wl, gl_wr, gr_wi, gr_wl, gr_wr, sh_wi, sh_wl, sh_wr, gl_cp, gr_cp, sh_cp, gl_rw, gr_rw, sh_rw, gi_rl, gr_rl, sh_rl, Option.toList_some, Option.toList_none, List.nil_append, List.cons_append, List.append_nil, Option.some.injEq, Prod.mk.injEq, and_true, true_and, and_self, if_true, if_false, reduceCtorEq, Nat.reduceLeDiff, Nat.reduceLT, Nat.reduceAdd, Nat.reduceEqDiff, false_and, and_false, exists_const, exists_eq_left, exists_eq_left', exists_and_left, and_assoc, nltL, nltR, nleL, nleR, neqL, neqR, naL, naR, nmL, nmR, nI_ltI, nI_leI, nI_eq, nI_add, nI_mul, nI_clamp, n0l, n0r, nm1, nm1', nm1l, nm1r, nm1g, nsL, nI_m1, Nat.add_sub_cancel, vpn, vpL, nclL, le32, leLL, leLN, leNL, leNN, inA, nb0, nb1, gi_wi_n, gi_wi_e, gi_rw_n, gi_rw_e, aWi_rw, ifl, ifl_, ifle, ifle_, ifq, ifq_, ifnq, ifnq_, ifnl, ifnl_, ifnle, ifnle_, z32 ok, z58 ok, z59 ok, z342 ok, r32_3 ok, r32_11 ok, r58_0 ok, a1]
  refine c_goW it P1 P5 it.2.2.2.1 cr (fun h4 cr4 g4 => ?_)
  simp only [s129_0, s129_1, s129_4, s129_5, s129_8, s129_9, s129_12, s129_15, true_or, or_true, or_false, false_or, or_self, Int32.reduceLT, Int32.reduceLE, Nat.add_zero, Nat.zero_add, Nat.not_lt_zero, not_false_eq_true, not_true_eq_false, and_assoc, kl_q, kl_i, kl_r, kl_n, kl_0, kl_l, cs_0, cs_i, cs_r, cs_n, cs_l, aRf_s, aRf_n, gi_wl, gi_wr, gl_wi, gl_wl, gl_wr, gr_wi, gr_wl, gr_wr, sh_wi, sh_wl, sh_wr, gl_cp, gr_cp, sh_cp, gl_rw, gr_rw, sh_rw, gi_rl, gr_rl, sh_rl, Option.toList_some, Option.toList_none, List.nil_append, List.cons_append, List.append_nil, Option.some.injEq, Prod.mk.injEq, and_true, true_and, and_self, if_true, if_false, reduceCtorEq, Nat.reduceLeDiff, Nat.reduceLT, Nat.reduceAdd, Nat.reduceEqDiff, false_and, and_false, exists_const, exists_eq_left, exists_eq_left', exists_and_left, and_assoc]
  exact hq h4 cr4 g4
theorem glo {x : Int32} {k : Nat} (h1 : 0 ≤ x.toInt ∧ x.toInt ≤ 9999) (hk : k ≤ 31) : 0 ≤ (imin 9999 (x + nI k)).toInt ∧ (imin 9999 (x + nI k)).toInt ≤ 9999 := by
  have e9 : (9999 : Int32).toInt = 9999 := rfl
  have h2 := adi x (nI k)
  rw [nI_toInt (by omega)] at h2
  unfold imin
  split
  · next q =>
    rw [lti, e9] at q
    omega
  · rw [e9]
    omega
theorem sb_day {ws : List Wd} (sb : SB M s D) (hM : M ≤ 6) (hw : ws.length ≤ 31) (hD : D + 1 ≤ 999) : SB M (dyS M ws s) (D + 1) := by
  obtain ⟨s1, s2, s3, s4, s5⟩ := sb
  have e : ∀ k, ¬ (18 ≤ k ∧ k < 18 + M) → ¬ k = 31 → ¬ k = 32 → dyS M ws s k = s k := fun k q1 q2 q3 => by
    unfold dyS
    rw [if_neg q1, if_neg q2, if_neg q3]
  refine ⟨fun k hk => ?_, fun h0 => ?_, ?_, ?_, hD⟩
  · rw [e k (by omega) (by omega) (by omega), e (6 + k) (by omega) (by omega) (by omega), e (12 + k) (by omega) (by omega) (by omega)]
    have := s1 k hk
    refine ⟨this.1, this.2.1, this.2.2.1, ?_⟩
    unfold dyS
    rw [if_pos (by omega)]
    exact glo this.2.2.2 (Nat.le_trans (cnt_le _ _) hw)
  · rw [e 29 (by omega) (by omega) (by omega)]
    exact s2 h0
  · rw [e 30 (by omega) (by omega) (by omega)]
    exact s3
  · unfold dyS
    rw [if_neg (by omega), if_neg (by omega), if_pos rfl, s4]
    exact nI_add D 1
theorem c_close {ws : List Wd} {E : Nat} {h0 : aM} (ok : OK h) (hM : M ≤ 6) (hF : F ≤ 5) (r1 : gi h 58 3 = nI M) (c2 : gi h 342 11 = nI M) (st : StC h M F 79 s) (di : DiR h lg 86 D E) (sb : SB M s D) (hE : D ≤ E + 39) (gp : GoP h ws) (hl : ws.length ≤ 31) (hq : ∀ h', Ag (fun a _ => 79 ≤ a ∧ a ≤ 88) h h' → StC h' M F 79 (dyS M ws s) → DiR h' (lgS lg D M ws) 86 (D + 1) E → Q none h') : AW (d + 3) 122 0 [some (.ref 32), none] [] h Q := by
  have eD := sb.2.2.2.1
  have hD := sb.2.2.2.2
  simp (disch := omega) only [s122_0, s122_1, s122_3, s122_4, s122_7, s122_10, s122_13, s122_14, s122_17, s122_20, s122_21, s122_24, s122_25, s122_28, s122_31, s122_32, s122_33, s122_34, s122_37, s122_40, s122_41, s122_42, s122_43, s122_46, s122_47, s122_50, s122_53, s122_54, s122_57, s122_60, s122_61, s122_62, s122_65, s122_68, s122_69, s122_72, s122_75, s122_76, s122_79, s122_80, s122_83, s122_86, s122_87, s122_90, s122_91, s122_94, s122_97, s122_98, s122_101, s122_104, s122_105, s122_108, s122_111, s122_112, s122_115, s122_116, s122_119, s122_119i, s122_120, s122_123, s122_124, s122_125, s122_128, true_or, or_true, or_false, false_or, or_self, Int32.reduceLT, Int32.reduceLE, Nat.add_zero, Nat.zero_add, Nat.not_lt_zero, not_false_eq_true, not_true_eq_false, and_assoc, kl_q, kl_i, kl_r, kl_n, kl_0, kl_l, cs_0, cs_i, cs_r, cs_n, cs_l, aRf_s, aRf_n, gi_wl, gi_wr, gl_wi, gl_wl, gl_wr, gr_wi, gr_wl, gr_wr, sh_wi, sh_wl, sh_wr, gl_cp, gr_cp, sh_cp, gl_rw, gr_rw, sh_rw, gi_rl, gr_rl, sh_rl, Option.toList_some, Option.toList_none, List.nil_append, List.cons_append, List.append_nil, Option.some.injEq, Prod.mk.injEq, and_true, true_and, and_self, if_true, if_false, reduceCtorEq, Nat.reduceLeDiff, Nat.reduceLT, Nat.reduceAdd, Nat.reduceEqDiff, false_and, and_false, exists_const, exists_eq_left, exists_eq_left', exists_and_left, and_assoc, nltL, nltR, nleL, nleR, neqL, neqR, naL, naR, nmL, nmR, nI_ltI, nI_leI, nI_eq, nI_add, nI_mul, nI_clamp, n0l, n0r, nm1, nm1', nm1l, nm1r, nm1g, nsL, nI_m1, Nat.add_sub_cancel, vpn, vpL, nclL, le32, leLL, leLN, leNL, leNN, inA, nb0, nb1, gi_wi_n, gi_wi_e, gi_rw_n, gi_rw_e, aWi_rw, ifl, ifl_, ifle, ifle_, ifq, ifq_, ifnq, ifnq_, ifnl, ifnl_, ifnle, ifnle_]
  refine aLoop M (fun k lv h' => lv = [some (.ref 32), some (.int (nI k))] ∧ Ag (fun a _ => a = 83) h h' ∧ (∀ j, ¬ j < k → gi h' 83 j = gi h 83 j) ∧ ∀ j, j < k → gi h' 83 j = imin 9999 (s (18 + j) + nI (cnt ws j))) ?_ ?_ 0 _ _ (Nat.zero_le _) ⟨rfl, Ag.refl ok, fun _ _ => rfl, fun j hj => by omega⟩
  · rintro k lv h' hk ⟨rfl, a1, p1, p2⟩ hk2
    have ok := a1.1
    have e1 : ¬ M ≤ k := by omega
    have k6 : k < 6 := by omega
    have r1' : gi h' 58 3 = nI M := by rw [a1.2 _ _ (by omega), r1]
    have e2 : gi h' 83 k = s (18 + k) := by rw [p1 k (by omega)]; exact (st.1 k hk).2.2.2
    have e3 : gi h' 343 k = nI (cnt ws k) := by rw [a1.2 _ _ (by omega)]; exact gp.2.2.2 k k6
    rw [s122_2]
    simp (disch := omega) only [s122_0, s122_1, s122_3, s122_4, s122_7, s122_10, s122_13, s122_14, s122_17, s122_20, s122_21, s122_24, s122_25, s122_28, s122_31, s122_32, s122_33, s122_34, s122_37, s122_40, s122_41, s122_42, s122_43, s122_46, s122_47, s122_50, s122_53, s122_54, s122_57, s122_60, s122_61, s122_62, s122_65, s122_68, s122_69, s122_72, s122_75, s122_76, s122_79, s122_80, s122_83, s122_86, s122_87, s122_90, s122_91, s122_94, s122_97, s122_98, s122_101, s122_104, s122_105, s122_108, s122_111, s122_112, s122_115, s122_116, s122_119, s122_119i, s122_120, s122_123, s122_124, s122_125, s122_128, true_or, or_true, or_false, false_or, or_self, Int32.reduceLT, Int32.reduceLE, Nat.add_zero, Nat.zero_add, Nat.not_lt_zero, not_false_eq_true, not_true_eq_false, and_assoc, kl_q, kl_i, kl_r, kl_n, kl_0, kl_l, cs_0, cs_i, cs_r, cs_n, cs_l, aRf_s, aRf_n, gi_wl, gi_wr, gl_wi, gl_wl, gl_wr, gr_wi, gr_wl, gr_wr, sh_wi, sh_wl, sh_wr, gl_cp, gr_cp, sh_cp, gl_rw, gr_rw, sh_rw, gi_rl, gr_rl, sh_rl, Option.toList_some, Option.toList_none, List.nil_append, List.cons_append, List.append_nil, Option.some.injEq, Prod.mk.injEq, and_true, true_and, and_self, if_true, if_false, reduceCtorEq, Nat.reduceLeDiff, Nat.reduceLT, Nat.reduceAdd, Nat.reduceEqDiff, false_and, and_false, exists_const, exists_eq_left, exists_eq_left', exists_and_left, and_assoc, nltL, nltR, nleL, nleR, neqL, neqR, naL, naR, nmL, nmR, nI_ltI, nI_leI, nI_eq, nI_add, nI_mul, nI_clamp, n0l, n0r, nm1, nm1', nm1l, nm1r, nm1g, nsL, nI_m1, Nat.add_sub_cancel, vpn, vpL, nclL, le32, leLL, leLN, leNL, leNN, inA, nb0, nb1, gi_wi_n, gi_wi_e, gi_rw_n, gi_rw_e, aWi_rw, ifl, ifl_, ifle, ifle_, ifq, ifq_, ifnq, ifnq_, ifnl, ifnl_, ifnle, ifnle_, z32 ok, z58 ok, z79 ok, z83 ok, z342 ok, z343 ok, r32_3 ok, r32_5 ok, r32_11 ok, r79_3 ok, r342_0 ok, r1', e1, e2, e3, k6, sp_min]
    refine hk2 _ _ ⟨rfl, a1.wi rfl, fun j hj => ?_, fun j hj => ?_⟩
    · rw [gi_wi_n (by omega), p1 j (by omega)]
    · by_cases hjk : j = k
      · subst hjk
        rw [gi_wi_e]
      · rw [gi_wi_n (by omega), p2 j (by omega)]
  · rintro lv h' ⟨rfl, a1, p1, p2⟩
    have ok := a1.1
    have r1' : gi h' 58 3 = nI M := by rw [a1.2 _ _ (by omega), r1]
    have c2' : gi h' 342 11 = nI M := by rw [a1.2 _ _ (by omega), c2]
    have gp' : GoP h' ws := by
      obtain ⟨u1, u2, u3, u4⟩ := gp
      refine ⟨by rw [a1.2 _ _ (by omega), u1], by rw [a1.2 _ _ (by omega), u2], fun i w hw => ?_, fun m hm => ?_⟩
      · rw [a1.2 344 _ (by omega), a1.2 345 _ (by omega)]
        exact u3 i w hw
      · rw [a1.2 343 _ (by omega)]
        exact u4 m hm
    have w5 : gi h' 79 7 = s 31 := by rw [a1.2 _ _ (by omega)]; exact st.2.2.2.2.1
    have w6 : gi h' 79 8 = nI D := by rw [a1.2 _ _ (by omega), st.2.2.2.2.2, eD]
    have k100 : D % 100 < 100 := Nat.mod_lt _ (by omega)
    have ef := fmod_n (a := D) (by omega)
    rw [s122_2]
    simp (disch := omega) only [s122_0, s122_1, s122_3, s122_4, s122_7, s122_10, s122_13, s122_14, s122_17, s122_20, s122_21, s122_24, s122_25, s122_28, s122_31, s122_32, s122_33, s122_34, s122_37, s122_40, s122_41, s122_42, s122_43, s122_46, s122_47, s122_50, s122_53, s122_54, s122_57, s122_60, s122_61, s122_62, s122_65, s122_68, s122_69, s122_72, s122_75, s122_76, s122_79, s122_80, s122_83, s122_86, s122_87, s122_90, s122_91, s122_94, s122_97, s122_98, s122_101, s122_104, s122_105, s122_108, s122_111, s122_112, s122_115, s122_116, s122_119, s122_119i, s122_120, s122_123, s122_124, s122_125, s122_128, true_or, or_true, or_false, false_or, or_self, Int32.reduceLT, Int32.reduceLE, Nat.add_zero, Nat.zero_add, Nat.not_lt_zero, not_false_eq_true, not_true_eq_false, and_assoc, kl_q, kl_i, kl_r, kl_n, kl_0, kl_l, cs_0, cs_i, cs_r, cs_n, cs_l, aRf_s, aRf_n, gi_wl, gi_wr, gl_wi, gl_wl, gl_wr, gr_wi, gr_wl, gr_wr, sh_wi, sh_wl, sh_wr, gl_cp, gr_cp, sh_cp, gl_rw, gr_rw, sh_rw, gi_rl, gr_rl, sh_rl, Option.toList_some, Option.toList_none, List.nil_append, List.cons_append, List.append_nil, Option.some.injEq, Prod.mk.injEq, and_true, true_and, and_self, if_true, if_false, reduceCtorEq, Nat.reduceLeDiff, Nat.reduceLT, Nat.reduceAdd, Nat.reduceEqDiff, false_and, and_false, exists_const, exists_eq_left, exists_eq_left', exists_and_left, and_assoc, nltL, nltR, nleL, nleR, neqL, neqR, naL, naR, nmL, nmR, nI_ltI, nI_leI, nI_eq, nI_add, nI_mul, nI_clamp, n0l, n0r, nm1, nm1', nm1l, nm1r, nm1g, nsL, nI_m1, Nat.add_sub_cancel, vpn, vpL, nclL, le32, leLL, leLN, leNL, leNN, inA, nb0, nb1, gi_wi_n, gi_wi_e, gi_rw_n, gi_rw_e, aWi_rw, ifl, ifl_, ifle, ifle_, ifq, ifq_, ifnq, ifnq_, ifnl, ifnl_, ifnle, ifnle_, z32 ok, z58 ok, z342 ok, r32_3 ok, r32_11 ok, r1', Nat.le_refl]
    refine c_nb ok hM c2' gp' hl ?_
    simp (disch := omega) only [s122_0, s122_1, s122_3, s122_4, s122_7, s122_10, s122_13, s122_14, s122_17, s122_20, s122_21, s122_24, s122_25, s122_28, s122_31, s122_32, s122_33, s122_34, s122_37, s122_40, s122_41, s122_42, s122_43, s122_46, s122_47, s122_50, s122_53, s122_54, s122_57, s122_60, s122_61, s122_62, s122_65, s122_68, s122_69, s122_72, s122_75, s122_76, s122_79, s122_80, s122_83, s122_86, s122_87, s122_90, s122_91, s122_94, s122_97, s122_98, s122_101, s122_104, s122_105, s122_108, s122_111, s122_112, s122_115, s122_116, s122_119, s122_119i, s122_120, s122_123, s122_124, s122_125, s122_128, s25_0, s25_1, s25_3, s25_6, s25_8, s25_9, s25_12, s25_14, s25_15, s25_16, s25_17, s25_20, s25_22, s25_23, s25_24, s25_25, s25_28, s25_30, s25_32, s25_33, true_or, or_true, or_false, false_or, or_self, Int32.reduceLT, Int32.reduceLE, Nat.add_zero, Nat.zero_add, Nat.not_lt_zero, not_false_eq_true, not_true_eq_false, and_assoc, kl_q, kl_i, kl_r, kl_n, kl_0, kl_l, cs_0, cs_i, cs_r, cs_n, cs_l, aRf_s, aRf_n, gi_wl, gi_wr, gl_wi, gl_wl, gl_wr, gr_wi, gr_wl, gr_wr, sh_wi, sh_wl, sh_wr, gl_cp, gr_cp, sh_cp, gl_rw, gr_rw, sh_rw, gi_rl, gr_rl, sh_rl, Option.toList_some, Option.toList_none, List.nil_append, List.cons_append, List.append_nil, Option.some.injEq, Prod.mk.injEq, and_true, true_and, and_self, if_true, if_false, reduceCtorEq, Nat.reduceLeDiff, Nat.reduceLT, Nat.reduceAdd, Nat.reduceEqDiff, false_and, and_false, exists_const, exists_eq_left, exists_eq_left', exists_and_left, and_assoc, nltL, nltR, nleL, nleR, neqL, neqR, naL, naR, nmL, nmR, nI_ltI, nI_leI, nI_eq, nI_add, nI_mul, nI_clamp, n0l, n0r, nm1, nm1', nm1l, nm1r, nm1g, nsL, nI_m1, Nat.add_sub_cancel, vpn, vpL, nclL, le32, leLL, leLN, leNL, leNN, inA, nb0, nb1, gi_wi_n, gi_wi_e, gi_rw_n, gi_rw_e, aWi_rw, ifl, ifl_, ifle, ifle_, ifq, ifq_, ifnq, ifnq_, ifnl, ifnl_, ifnle, ifnle_, z32 ok, z79 ok, z85 ok, z86 ok, z87 ok, z88 ok, z342 ok, r32_5 ok, r32_6 ok, r32_11 ok, r85_0 ok, r85_1 ok, r85_2 ok, w5, w6, sp_bits, sp_min, sp_fmod, gp'.1, gp'.2.1, ef, k100]
    obtain ⟨h2, eh2⟩ : ∃ h2, h2 = aWi (aWi (aWi (aWi (aWi h' 79 7 (imin 999 (s 31 + ibc (nb ws M)))) 86 (D % 100) (nI ws.length)) 87 (D % 100) (nI (slp ws))) 88 (D % 100) (nb ws M)) 79 8 (nI (D + 1)) := ⟨_, rfl⟩
    rw [← eh2]
    have a2 : Ag (fun a _ => 79 ≤ a ∧ a ≤ 88) h h2 := by
      rw [eh2]
      exact (((((a1.mono (fun a k z => by omega)).wi (by omega)).wi (by omega)).wi (by omega)).wi (by omega)).wi (by omega)
    have t : ∀ a k, ¬ (86 ≤ a ∧ a ≤ 88) → ¬ (a = 79 ∧ (k = 7 ∨ k = 8)) → gi h2 a k = gi h' a k := fun a k q1 q2 => by
      rw [eh2, gi_wi_n (by omega), gi_wi_n (by omega), gi_wi_n (by omega), gi_wi_n (by omega), gi_wi_n (by omega)]
    have e : ∀ k, ¬ (18 ≤ k ∧ k < 18 + M) → ¬ k = 31 → ¬ k = 32 → dyS M ws s k = s k := fun k q1 q2 q3 => by
      unfold dyS
      rw [if_neg q1, if_neg q2, if_neg q3]
    refine hq _ a2 ⟨fun k hk => ?_, fun f hf => ?_, ?_, ?_, ?_, ?_⟩ (fun j j1 j2 w hw => ?_)
    · rw [e k (by omega) (by omega) (by omega), e (6 + k) (by omega) (by omega) (by omega), e (12 + k) (by omega) (by omega) (by omega), t (79 + 1) k (by omega) (by omega), t (79 + 2) k (by omega) (by omega), t (79 + 3) k (by omega) (by omega), t (79 + 4) k (by omega) (by omega), a1.2 (79 + 1) k (by omega), a1.2 (79 + 2) k (by omega), a1.2 (79 + 3) k (by omega)]
      refine ⟨(st.1 k hk).1, (st.1 k hk).2.1, (st.1 k hk).2.2.1, ?_⟩
      rw [show gi h' (79 + 4) k = _ from p2 k hk]
      unfold dyS
      rw [if_pos (by omega), show 18 + k - 18 = k by omega]
    · rw [e (24 + f) (by omega) (by omega) (by omega), t _ _ (by omega) (by omega), a1.2 _ _ (by omega)]
      exact st.2.1 f hf
    · rw [e 29 (by omega) (by omega) (by omega), t _ _ (by omega) (by omega), a1.2 _ _ (by omega)]
      exact st.2.2.1
    · rw [e 30 (by omega) (by omega) (by omega), t _ _ (by omega) (by omega), a1.2 _ _ (by omega)]
      exact st.2.2.2.1
    · rw [eh2, gi_wi_n (by omega), gi_wi_n (by omega), gi_wi_n (by omega), gi_wi_n (by omega), gi_wi_e]
      unfold dyS
      rw [if_neg (by omega), if_pos rfl]
    · rw [eh2, gi_wi_e]
      unfold dyS
      rw [if_neg (by omega), if_neg (by omega), if_pos rfl, eD]
      exact (nI_add D 1).symm
    · unfold lgS lnS
      have hw3 : w = 0 ∨ w = 1 ∨ w = 2 := by omega
      by_cases hjD : j = D
      · subst hjD
        rw [if_pos rfl]
        rcases hw3 with rfl | rfl | rfl
        · rw [eh2, gi_wi_n (by omega), gi_wi_n (by omega), gi_wi_n (by omega), if_pos rfl]
          exact gi_wi_e
        · rw [eh2, gi_wi_n (by omega), gi_wi_n (by omega), if_neg (by omega), if_pos rfl]
          exact gi_wi_e
        · rw [eh2, gi_wi_n (by omega), if_neg (by omega), if_neg (by omega)]
          exact gi_wi_e
      · rw [if_neg hjD, ← di j (by omega) j2 w hw, eh2, gi_wi_n (by omega), gi_wi_n (by omega), gi_wi_n (by omega), gi_wi_n (by omega), gi_wi_n (by omega), a1.2 _ _ (by omega)]
end D1
