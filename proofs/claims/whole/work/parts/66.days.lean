-- deps: 65.day2
section D3
variable {d : Nat} {g h h1 : aM} {Q : Option Value → aM → Prop} {M F L W N D c nx n T P : Nat} {s s' : Nat → Int32} {lg ks : Nat → Nat → Int32} {Dk : Nat → Nat} {q : Ab}
def MDZ (a k : Nat) : Prop := a = 416 ∨ a = 421 ∨ (a = 399 ∧ k = 38) ∨ ScrP a k
theorem nMT {a k : Nat} (h : TZ a k) : ¬ MDZ a k := fun z => by
  rcases z with z | z | z | z
  · unfold TZ at h; omega
  · unfold TZ at h; omega
  · unfold TZ at h; omega
  · exact nS4 h z
theorem cN_n {k : Nat} (h : k < 2 ^ 31) : cN (nI k) = k := nI_clamp h
theorem ab_day (ab : AB M q) (sb : SB M s' q.2.1) (hM : M ≤ 6) (hW : W ≤ 20) (hD : q.2.1 + 1 ≤ 999) : AB M (dyQ g M F L W q s') := by
  refine ⟨sb_day sb hM (Nat.le_trans (rd_le _) (by omega)) hD, fun nx hnx => ?_⟩
  have := kb_keep (ab.2 nx hnx) ab.1 (D' := q.2.1 + 1) (Or.inr rfl)
  exact ⟨this.1, hnx, this.2.2⟩
/-- the class rides and closes the day -/
theorem c_ride2 (tz : Ag CDZ g h1) (it : ITold g M F L W) (il : ILaw g N) (st : StC h1 M F 79 s') (sb : SB M s' D) (h0 : 0 < M) (hq : ∀ h2, Same h1 h2 → gi h2 342 11 = nI M → GoP h2 (rwS g M F L W s') → Q none h2) : AW (d + 6) 129 0 [some (.ref 32)] [] h1 Q := by
  have t : ∀ a k, TZ a k → gi h1 a k = gi g a k := fun a k z => tz.2 a k (nCT z)
  obtain ⟨P, P1, P5, hP⟩ := sb.2.1 h0
  refine c_rideC (it.tz t) (il.tz t) tz.1 st sb hP P1 P5 (fun h2 cr gp => hq h2 cr.1.1 cr.1.2.1 ?_)
  unfold rwS
  rw [hP, cN_n (by omega), ← hdG_tz t]
  exact gp
theorem c_close2 {h2 : aM} (tz : Ag CDZ g h1) (sa : Same h1 h2) (it : ITold g M F L W) (ab : AB M q) (sb : SB M s' q.2.1) (hnx : nx < 40) (st : StC h1 M F 79 s') (kc : KC h1 M F (min 40 (q.2.2.1 + 1)) nx (kpK q.2.2.1 q.2.2.2.1 q.1)) (di : DiR h1 q.2.2.2.2.2 86 q.2.1 (q.2.2.2.2.1 0)) (c2 : gi h2 342 11 = nI M) (gp : GoP h2 (rwS g M F L W s')) (hq : ∀ h3, Ag CDZ g h3 → CR h3 M F (dyQ g M F L W q s') → Q none h3) : AW (d + 3) 122 0 [some (.ref 32), none] [] h2 Q := by
  have hM := it.1
  have hF := it.2.1
  have hW := it.2.2.2.1
  have r1 : gi h2 58 3 = nI M := by rw [sa.2 _ _ rfl, tz.2 _ _ (nCT (by unfold TZ; omega)), it.2.2.2.2.2.1]
  have t2 : ∀ a k, 58 ≤ a → a ≤ 341 → gi h2 a k = gi h1 a k := fun a k p r => sa.ag.2 a k (nS1 p r)
  have kd := kpD_0 (D' := q.2.1 + 1) (ab.2 0 (by omega))
  have wl : (rwS g M F L W s').length ≤ 31 := Nat.le_trans (rd_le _) (by omega)
  refine c_close (E := kpD q.2.2.1 q.2.2.2.2.1 (q.2.1 + 1) 0) (h0 := g) sa.1 hM hF r1 c2 (st.eq (fun b k hb => t2 _ _ (by omega) (by omega))) (D := q.2.1) (lg := q.2.2.2.2.2) (fun e e1 e2 w hw => ?_) sb (by omega) gp wl (fun h3 a3 st3 di3 => ?_)
  · rw [t2 _ _ (by omega) (by omega)]
    exact di e e1 (by omega) w hw
  · refine hq h3 ⟨a3.1, fun a k z => ?_⟩ ⟨nx, hnx, st3, kc.eq (fun a k p r => by rw [a3.2 a k (by omega), t2 a k (by omega) (by omega)]), di3⟩
    rw [a3.2 a k (fun y => z (Or.inl (by omega))), sa.ag.2 a k (fun y => z (Or.inr y)), tz.2 a k z]
/-- the reference keeps and lets a day pass -/
theorem StM.lg' {a o : Nat} {lg' : Nat → Nat → Int32} (st : StM h lg a o s D) (e : ∀ j, j < D → lg' j = lg j) : StM h lg' a o s D := by
  obtain ⟨s1, s2, s3⟩ := st
  refine ⟨s1, s2, fun j h1 h2 w hw => ?_⟩
  rw [e j h1]
  exact s3 j h1 h2 w hw
theorem kb_le (kb : KB M c nx D ks Dk) : ∀ i, i ≤ c → Dk i ≤ D := by
  obtain ⟨b1, b2, b3, b4, b5⟩ := kb
  intro i hi
  have : ∀ r, r ≤ c → Dk (c - r) ≤ D := by
    intro r
    induction r with
    | zero => intro _; rw [Nat.sub_zero, b4]; exact Nat.le_refl _
    | succ r ih =>
      intro hr
      have h1 := ih (by omega)
      have h2 := b5 (c - (r + 1)) (by omega)
      rw [show c - (r + 1) + 1 = c - r by omega] at h2
      omega
  have := this (c - i) (by omega)
  rw [show c - (c - i) = i by omega] at this
  exact this
theorem m_day2 (tz : ∀ a k, TZ a k → gi h a k = gi g a k) (ok : OK h) (it : ITold g M F L W) (il : ILaw g N) (ab : AB M q) (sb : SB M s' q.2.1) (h0 : 0 < M) (hD : q.2.1 + 1 ≤ 999) (st : StM h q.2.2.2.2.2 416 0 s' q.2.1) (km : KM h q.2.2.2.2.2 (min 40 (q.2.2.1 + 1)) (kpK q.2.2.1 q.2.2.2.1 q.1) (kpD q.2.2.1 q.2.2.2.2.1 (q.2.1 + 1))) (hq : ∀ h', Ag MDZ h h' → MR h' (dyQ g M F L W q s') → Q none h') : AW (d + 10) 230 0 [some (.ref 399), none] [] h Q := by
  obtain ⟨P, P1, P5, hP⟩ := sb.2.1 h0
  have ew : rwS g M F L W s' = rdA (hdG h F s' (vS s') (dS s') P (s' 30)) M L P (s' 30) W := by
    unfold rwS
    rw [hP, cN_n (by omega), hdG_tz tz]
  refine m_pass (it.tz tz) (il.tz tz) ok st sb hP P1 P5 ew (fun h' a1 st' => ?_)
  refine hq h' (a1.mono (fun a k z => z.elim Or.inl (fun y => Or.inr (Or.inr (Or.inr y))))) ⟨st', ?_⟩
  have kb := kb_keep (ab.2 0 (by omega)) ab.1 (D' := q.2.1 + 1) (Or.inr rfl)
  refine ⟨by rw [a1.2 _ _ (by unfold ScrP; omega), km.1]; rfl, fun i hi => ?_⟩
  have hk : kpD q.2.2.1 q.2.2.2.2.1 (q.2.1 + 1) i ≤ q.2.1 := by
    have := kb_le (ab.2 0 (by omega)) (i + (q.2.2.1 + 1 - min 40 (q.2.2.1 + 1))) (by
      have h1 := (ab.2 0 (by omega)).1
      have h2 : i < min 40 (q.2.2.1 + 1) := hi
      omega)
    unfold kpD
    rw [if_neg (show ¬ i = min 40 (q.2.2.1 + 1) from Nat.ne_of_lt hi)]
    exact this
  refine ((km.2 i hi).eq (fun k _ => a1.2 _ _ (by unfold ScrP; omega))).lg' (fun j hj => ?_)
  funext w
  show lgS q.2.2.2.2.2 q.2.1 M (rwS g M F L W s') j w = _
  unfold lgS
  rw [if_neg (by omega)]
def qD (g : aM) (M F L W : Nat) (q0 : Ab) : Nat → Ab
  | 0 => q0
  | k + 1 => dyQ g M F L W (qD g M F L W q0 k) (qD g M F L W q0 k).1
theorem qD_d {q0 : Ab} : ∀ k, (qD g M F L W q0 k).2.1 = q0.2.1 + k
  | 0 => rfl
  | k + 1 => by
    show (qD g M F L W q0 k).2.1 + 1 = _
    rw [qD_d k]
    rfl
theorem qD_ab {q0 : Ab} (ab : AB M q0) (hM : M ≤ 6) (hW : W ≤ 20) : ∀ k, q0.2.1 + k ≤ 999 → AB M (qD g M F L W q0 k)
  | 0, _ => ab
  | k + 1, hk => by
    have h1 := qD_ab ab hM hW k (by omega)
    exact ab_day h1 h1.1 hM hW (by rw [qD_d]; omega)
/-- from both sides to what holds between calls -/
theorem inv_q {q : Ab} (i : InvA g M F L W N D c nx n T s lg ks Dk) (a1 : Ag CDZ g h1) (a2 : Ag MDZ h1 h) (cr : CR h1 M F q) (mr : MR h q) (ab : AB M q) : Inv h := by
  obtain ⟨nx', hn', c1, c2, c3⟩ := cr
  obtain ⟨i1, i2, i3, i4, ⟨i5, i6, i7⟩, ⟨i8, i9⟩, i10, i11, i12, i13, i14, i15, i16⟩ := id i
  have t2 : ∀ a k, ¬ ScrP a k → ¬ (a = 416 ∨ a = 421 ∨ (a = 399 ∧ k = 38)) → gi h a k = gi h1 a k := fun a k p r => a2.2 a k (fun z => by
    rcases z with z | z | z | z
    · exact r (Or.inl z)
    · exact r (Or.inr (Or.inl z))
    · exact r (Or.inr (Or.inr z))
    · exact p z)
  have t : ∀ a k, ¬ ScrP a k → ¬ (79 ≤ a ∧ a ≤ 330) → ¬ (a = 416 ∨ a = 421 ∨ (a = 399 ∧ k = 38)) → gi h a k = gi g a k := fun a k p o r => by
    rw [t2 a k p r, a1.2 a k (fun z => z.elim o p)]
  have z : Ag UZ g h := ⟨a2.1, fun a k z => t a k (fun y => z (Or.inr (Or.inr (Or.inr (Or.inr (Or.inr (Or.inr y))))))) (fun y => z (Or.inl (by omega))) (fun y => by
    rcases y with y | y | y
    · exact z (Or.inr (Or.inl y))
    · exact z (Or.inr (Or.inr (Or.inl y)))
    · exact z (Or.inr (Or.inr (Or.inr (Or.inr (Or.inl ⟨y.1, Or.inl y.2⟩))))))⟩
  exact inv_st i z (c1.eq (fun b k hb => t2 _ _ (nS1 (by omega) (by omega)) (by omega))) (c2.eq (fun a k p r => t2 _ _ (nS1 (by omega) (by omega)) (by omega))) (c3.eq (fun w k hw => t2 _ _ (nS1 (by omega) (by omega)) (by omega))) mr.1 mr.2 ab.1 (ab.2 nx' hn') (i12.eq (t _ _ (nS2 (by omega)) (by omega) (by omega)) (t _ _ (by unfold ScrP; omega) (by omega) (by omega)) (fun a k p r => t _ _ (nS1 (by omega) (by omega)) (by omega) (by omega)) (fun k => t _ _ (nS3 (by omega)) (by omega) (by omega)))
theorem a_days (b : Int32) : Act 113 232 [some (.ref 32), some (.int b), none] [some (.ref 399), some (.int b), none] := by
  rintro g d ⟨M, F, L, W, N, D, c, nx, n', T, s, lg, ks, Dk, i⟩
  obtain ⟨i1, i2, i3, i4, ⟨i5, i6, i7⟩, ⟨i8, i9⟩, i10, i11, i12, i13, i14, i15, i16⟩ := id i
  have it := i2
  have hM : M ≤ 6 := it.1
  have hM' : M ≤ 10 := by omega
  have hF : F ≤ 5 := it.2.1
  have hF' : F ≤ 10 := by omega
  have hL : L ≤ 30 := it.2.2.1
  have hW : W ≤ 20 := it.2.2.2.1
  have hc40 := i11.1
  have hnx := i11.2.1
  obtain ⟨r1, r2, r3, r4, r5, r6, r7, r8⟩ := rd58' it
  obtain ⟨w1, w2, w3, w4, w5, w6⟩ := rdS i5
  have ok := i1
  have eD := i10.2.2.2.1
  have hD := i10.2.2.2.2
  have x32 := rdM i8 (k := 32) (by omega)
  rw [eD] at w6 x32
  by_cases h0 : M = 0
  · simp (disch := omega) only [s113_0, s113_1, s113_4, s113_7, s113_8, s113_9, s113_12, s113_13, s113_14, s113_15, s113_18, s113_19, s113_21, s113_24, s113_25, s113_26, s113_29, s113_30, s113_31, s113_34, s113_37, s113_38, s113_39, s113_42, s113_45, s113_46, s113_47, s113_50, s113_51, s113_52, s113_54, s113_55, s113_58, s113_59, s113_62, s113_63, s113_66, s113_69, s113_70, s113_73, s113_74, s113_77, s113_80, s113_83, s113_84, s113_87, s113_90, s121_0, s121_1, s121_4, s121_5, s121_6, s121_7, s121_8, s121_9, s121_10, s121_11, true_or, or_true, or_false, false_or, or_self, Int32.reduceLT, Int32.reduceLE, Nat.add_zero, Nat.zero_add, Nat.not_lt_zero, not_false_eq_true, not_true_eq_false, and_assoc, kl_q, kl_i, kl_r, kl_n, kl_0, kl_l, cs_0, cs_i, cs_r, cs_n, cs_l, aRf_s, aRf_n, gi_wl, gi_wr, gl_wi, gl_wl, gl_wr, gr_wi, gr_wl, gr_wr, sh_wi, sh_wl, sh_wr, gl_cp, gr_cp, sh_cp, gl_rw, gr_rw, sh_rw, gi_rl, gr_rl, sh_rl, Option.toList_some, Option.toList_none, List.nil_append, List.cons_append, List.append_nil, Option.some.injEq, Prod.mk.injEq, and_true, true_and, and_self, if_true, if_false, reduceCtorEq, Nat.reduceLeDiff, Nat.reduceLT, Nat.reduceAdd, Nat.reduceEqDiff, false_and, and_false, exists_const, exists_eq_left, exists_eq_left', exists_and_left, and_assoc, nltL, nltR, nleL, nleR, neqL, neqR, naL, naR, nmL, nmR, nI_ltI, nI_leI, nI_eq, nI_add, nI_mul, nI_clamp, n0l, n0r, nm1, nm1', nm1l, nm1r, nm1g, nsL, nI_m1, Nat.add_sub_cancel, vpn, vpL, nclL, le32, leLL, leLN, leNL, leNN, inA, nb0, nb1, gi_wi_n, gi_wi_e, gi_rw_n, gi_rw_e, aWi_rw, ifl, ifl_, ifle, ifle_, ifq, ifq_, ifnq, ifnq_, ifnl, ifnl_, ifnle, ifnle_, z32 ok, z79 ok, z80 ok, z81 ok, z82 ok, z83 ok, z84 ok, z371 ok, r32_5 ok, r79_0 ok, r79_1 ok, r79_2 ok, r79_3 ok, r79_4 ok, r32_13 ok, c_noRide ok hM' r1, h0, decide_true, bI_0]
    refine ⟨-1, rfl, ?_⟩
    have ok : OK (aWi g 371 0 (gi g 371 0 + 1)) := ok
    have r2 : gi (aWi g 371 0 (gi g 371 0 + 1)) 399 25 = nI M := r2
    have r4 : gi (aWi g 371 0 (gi g 371 0 + 1)) 399 26 = nI F := r4
    have r6 : gi (aWi g 371 0 (gi g 371 0 + 1)) 413 0 = nI L := r6
    simp (disch := omega) only [s232_0, s232_1, s232_2, s232_5, s232_8, s232_9, s232_12, s232_13, s232_14, s232_16, s232_19, s232_22, s232_23, s232_26, s232_27, s232_28, s232_31, s232_34, s232_35, s232_38, s232_39, s232_42, s232_45, s232_46, s232_47, s232_48, s232_50, s232_51, s232_54, s232_55, s232_58, s232_59, s232_62, s232_65, s232_68, s232_69, s232_72, s232_74, s232_75, s223_0, s223_1, s223_2, s223_5, s223_6, s223_9, s223_10, s223_11, s223_12, s223_13, s223_14, s223_15, s223_16, s223_17, s223_20, s223_21, s223_24, s223_25, true_or, or_true, or_false, false_or, or_self, Int32.reduceLT, Int32.reduceLE, Nat.add_zero, Nat.zero_add, Nat.not_lt_zero, not_false_eq_true, not_true_eq_false, and_assoc, kl_q, kl_i, kl_r, kl_n, kl_0, kl_l, cs_0, cs_i, cs_r, cs_n, cs_l, aRf_s, aRf_n, gi_wl, gi_wr, gl_wi, gl_wl, gl_wr, gr_wi, gr_wl, gr_wr, sh_wi, sh_wl, sh_wr, gl_cp, gr_cp, sh_cp, gl_rw, gr_rw, sh_rw, gi_rl, gr_rl, sh_rl, Option.toList_some, Option.toList_none, List.nil_append, List.cons_append, List.append_nil, Option.some.injEq, Prod.mk.injEq, and_true, true_and, and_self, if_true, if_false, reduceCtorEq, Nat.reduceLeDiff, Nat.reduceLT, Nat.reduceAdd, Nat.reduceEqDiff, false_and, and_false, exists_const, exists_eq_left, exists_eq_left', exists_and_left, and_assoc, nltL, nltR, nleL, nleR, neqL, neqR, naL, naR, nmL, nmR, nI_ltI, nI_leI, nI_eq, nI_add, nI_mul, nI_clamp, n0l, n0r, nm1, nm1', nm1l, nm1r, nm1g, nsL, nI_m1, Nat.add_sub_cancel, vpn, vpL, nclL, le32, leLL, leLN, leNL, leNN, inA, nb0, nb1, gi_wi_n, gi_wi_e, gi_rw_n, gi_rw_e, aWi_rw, ifl, ifl_, ifle, ifle_, ifq, ifq_, ifnq, ifnq_, ifnl, ifnl_, ifnle, ifnle_, z399 ok, z416 ok, z417 ok, r399_27 ok, r399_28 ok, r2, h0, bI_0]
    exact inv_ref i (by omega)
  have h0d : decide (M = 0) = false := by simp [h0]
  have h0' : 0 < M := by omega
  rcases inR4 (n := 60) (lit := 60) (by omega) rfl b with ⟨hi, hb⟩ | ⟨hi, rfl⟩ | ⟨hi, j, hj, hj2, rfl⟩ | ⟨hi, n, hn1, hn, rfl⟩
  · have hb1 : b < 1 := by
      have e1 : (1 : Int32).toInt = 1 := rfl
      have e0 : (0 : Int32).toInt = 0 := rfl
      rw [lti, e1]
      rw [lti, e0] at hb
      omega
    simp (disch := omega) only [s113_0, s113_1, s113_4, s113_7, s113_8, s113_9, s113_12, s113_13, s113_14, s113_15, s113_18, s113_19, s113_21, s113_24, s113_25, s113_26, s113_29, s113_30, s113_31, s113_34, s113_37, s113_38, s113_39, s113_42, s113_45, s113_46, s113_47, s113_50, s113_51, s113_52, s113_54, s113_55, s113_58, s113_59, s113_62, s113_63, s113_66, s113_69, s113_70, s113_73, s113_74, s113_77, s113_80, s113_83, s113_84, s113_87, s113_90, s121_0, s121_1, s121_4, s121_5, s121_6, s121_7, s121_8, s121_9, s121_10, s121_11, true_or, or_true, or_false, false_or, or_self, Int32.reduceLT, Int32.reduceLE, Nat.add_zero, Nat.zero_add, Nat.not_lt_zero, not_false_eq_true, not_true_eq_false, and_assoc, kl_q, kl_i, kl_r, kl_n, kl_0, kl_l, cs_0, cs_i, cs_r, cs_n, cs_l, aRf_s, aRf_n, gi_wl, gi_wr, gl_wi, gl_wl, gl_wr, gr_wi, gr_wl, gr_wr, sh_wi, sh_wl, sh_wr, gl_cp, gr_cp, sh_cp, gl_rw, gr_rw, sh_rw, gi_rl, gr_rl, sh_rl, Option.toList_some, Option.toList_none, List.nil_append, List.cons_append, List.append_nil, Option.some.injEq, Prod.mk.injEq, and_true, true_and, and_self, if_true, if_false, reduceCtorEq, Nat.reduceLeDiff, Nat.reduceLT, Nat.reduceAdd, Nat.reduceEqDiff, false_and, and_false, exists_const, exists_eq_left, exists_eq_left', exists_and_left, and_assoc, nltL, nltR, nleL, nleR, neqL, neqR, naL, naR, nmL, nmR, nI_ltI, nI_leI, nI_eq, nI_add, nI_mul, nI_clamp, n0l, n0r, nm1, nm1', nm1l, nm1r, nm1g, nsL, nI_m1, Nat.add_sub_cancel, vpn, vpL, nclL, le32, leLL, leLN, leNL, leNN, inA, nb0, nb1, gi_wi_n, gi_wi_e, gi_rw_n, gi_rw_e, aWi_rw, ifl, ifl_, ifle, ifle_, ifq, ifq_, ifnq, ifnq_, ifnl, ifnl_, ifnle, ifnle_, z32 ok, z371 ok, r32_13 ok, c_noRide ok hM' r1, h0d, hb1, bI_0]
    refine ⟨-1, rfl, ?_⟩
    have ok : OK (aWi g 371 1 (gi g 371 1 + 1)) := ok
    have r2 : gi (aWi g 371 1 (gi g 371 1 + 1)) 399 25 = nI M := r2
    simp (disch := omega) only [s232_0, s232_1, s232_2, s232_5, s232_8, s232_9, s232_12, s232_13, s232_14, s232_16, s232_19, s232_22, s232_23, s232_26, s232_27, s232_28, s232_31, s232_34, s232_35, s232_38, s232_39, s232_42, s232_45, s232_46, s232_47, s232_48, s232_50, s232_51, s232_54, s232_55, s232_58, s232_59, s232_62, s232_65, s232_68, s232_69, s232_72, s232_74, s232_75, s223_0, s223_1, s223_2, s223_5, s223_6, s223_9, s223_10, s223_11, s223_12, s223_13, s223_14, s223_15, s223_16, s223_17, s223_20, s223_21, s223_24, s223_25, true_or, or_true, or_false, false_or, or_self, Int32.reduceLT, Int32.reduceLE, Nat.add_zero, Nat.zero_add, Nat.not_lt_zero, not_false_eq_true, not_true_eq_false, and_assoc, kl_q, kl_i, kl_r, kl_n, kl_0, kl_l, cs_0, cs_i, cs_r, cs_n, cs_l, aRf_s, aRf_n, gi_wl, gi_wr, gl_wi, gl_wl, gl_wr, gr_wi, gr_wl, gr_wr, sh_wi, sh_wl, sh_wr, gl_cp, gr_cp, sh_cp, gl_rw, gr_rw, sh_rw, gi_rl, gr_rl, sh_rl, Option.toList_some, Option.toList_none, List.nil_append, List.cons_append, List.append_nil, Option.some.injEq, Prod.mk.injEq, and_true, true_and, and_self, if_true, if_false, reduceCtorEq, Nat.reduceLeDiff, Nat.reduceLT, Nat.reduceAdd, Nat.reduceEqDiff, false_and, and_false, exists_const, exists_eq_left, exists_eq_left', exists_and_left, and_assoc, nltL, nltR, nleL, nleR, neqL, neqR, naL, naR, nmL, nmR, nI_ltI, nI_leI, nI_eq, nI_add, nI_mul, nI_clamp, n0l, n0r, nm1, nm1', nm1l, nm1r, nm1g, nsL, nI_m1, Nat.add_sub_cancel, vpn, vpL, nclL, le32, leLL, leLN, leNL, leNN, inA, nb0, nb1, gi_wi_n, gi_wi_e, gi_rw_n, gi_rw_e, aWi_rw, ifl, ifl_, ifle, ifle_, ifq, ifq_, ifnq, ifnq_, ifnl, ifnl_, ifnle, ifnle_, z399 ok, z417 ok, r399_28 ok, r2, h0, m_in, hi, bI_0]
    exact inv_ref i (by omega)
  · simp (disch := omega) only [s113_0, s113_1, s113_4, s113_7, s113_8, s113_9, s113_12, s113_13, s113_14, s113_15, s113_18, s113_19, s113_21, s113_24, s113_25, s113_26, s113_29, s113_30, s113_31, s113_34, s113_37, s113_38, s113_39, s113_42, s113_45, s113_46, s113_47, s113_50, s113_51, s113_52, s113_54, s113_55, s113_58, s113_59, s113_62, s113_63, s113_66, s113_69, s113_70, s113_73, s113_74, s113_77, s113_80, s113_83, s113_84, s113_87, s113_90, s121_0, s121_1, s121_4, s121_5, s121_6, s121_7, s121_8, s121_9, s121_10, s121_11, true_or, or_true, or_false, false_or, or_self, Int32.reduceLT, Int32.reduceLE, Nat.add_zero, Nat.zero_add, Nat.not_lt_zero, not_false_eq_true, not_true_eq_false, and_assoc, kl_q, kl_i, kl_r, kl_n, kl_0, kl_l, cs_0, cs_i, cs_r, cs_n, cs_l, aRf_s, aRf_n, gi_wl, gi_wr, gl_wi, gl_wl, gl_wr, gr_wi, gr_wl, gr_wr, sh_wi, sh_wl, sh_wr, gl_cp, gr_cp, sh_cp, gl_rw, gr_rw, sh_rw, gi_rl, gr_rl, sh_rl, Option.toList_some, Option.toList_none, List.nil_append, List.cons_append, List.append_nil, Option.some.injEq, Prod.mk.injEq, and_true, true_and, and_self, if_true, if_false, reduceCtorEq, Nat.reduceLeDiff, Nat.reduceLT, Nat.reduceAdd, Nat.reduceEqDiff, false_and, and_false, exists_const, exists_eq_left, exists_eq_left', exists_and_left, and_assoc, nltL, nltR, nleL, nleR, neqL, neqR, naL, naR, nmL, nmR, nI_ltI, nI_leI, nI_eq, nI_add, nI_mul, nI_clamp, n0l, n0r, nm1, nm1', nm1l, nm1r, nm1g, nsL, nI_m1, Nat.add_sub_cancel, vpn, vpL, nclL, le32, leLL, leLN, leNL, leNN, inA, nb0, nb1, gi_wi_n, gi_wi_e, gi_rw_n, gi_rw_e, aWi_rw, ifl, ifl_, ifle, ifle_, ifq, ifq_, ifnq, ifnq_, ifnl, ifnl_, ifnle, ifnle_, z32 ok, z79 ok, z80 ok, z81 ok, z82 ok, z83 ok, z84 ok, z371 ok, r32_5 ok, r79_0 ok, r79_1 ok, r79_2 ok, r79_3 ok, r79_4 ok, r32_13 ok, c_noRide ok hM' r1, h0d, bI_0]
    refine ⟨-1, rfl, ?_⟩
    have ok : OK (aWi g 371 1 (gi g 371 1 + 1)) := ok
    have r2 : gi (aWi g 371 1 (gi g 371 1 + 1)) 399 25 = nI M := r2
    have r4 : gi (aWi g 371 1 (gi g 371 1 + 1)) 399 26 = nI F := r4
    have r6 : gi (aWi g 371 1 (gi g 371 1 + 1)) 413 0 = nI L := r6
    simp (disch := omega) only [s232_0, s232_1, s232_2, s232_5, s232_8, s232_9, s232_12, s232_13, s232_14, s232_16, s232_19, s232_22, s232_23, s232_26, s232_27, s232_28, s232_31, s232_34, s232_35, s232_38, s232_39, s232_42, s232_45, s232_46, s232_47, s232_48, s232_50, s232_51, s232_54, s232_55, s232_58, s232_59, s232_62, s232_65, s232_68, s232_69, s232_72, s232_74, s232_75, s223_0, s223_1, s223_2, s223_5, s223_6, s223_9, s223_10, s223_11, s223_12, s223_13, s223_14, s223_15, s223_16, s223_17, s223_20, s223_21, s223_24, s223_25, true_or, or_true, or_false, false_or, or_self, Int32.reduceLT, Int32.reduceLE, Nat.add_zero, Nat.zero_add, Nat.not_lt_zero, not_false_eq_true, not_true_eq_false, and_assoc, kl_q, kl_i, kl_r, kl_n, kl_0, kl_l, cs_0, cs_i, cs_r, cs_n, cs_l, aRf_s, aRf_n, gi_wl, gi_wr, gl_wi, gl_wl, gl_wr, gr_wi, gr_wl, gr_wr, sh_wi, sh_wl, sh_wr, gl_cp, gr_cp, sh_cp, gl_rw, gr_rw, sh_rw, gi_rl, gr_rl, sh_rl, Option.toList_some, Option.toList_none, List.nil_append, List.cons_append, List.append_nil, Option.some.injEq, Prod.mk.injEq, and_true, true_and, and_self, if_true, if_false, reduceCtorEq, Nat.reduceLeDiff, Nat.reduceLT, Nat.reduceAdd, Nat.reduceEqDiff, false_and, and_false, exists_const, exists_eq_left, exists_eq_left', exists_and_left, and_assoc, nltL, nltR, nleL, nleR, neqL, neqR, naL, naR, nmL, nmR, nI_ltI, nI_leI, nI_eq, nI_add, nI_mul, nI_clamp, n0l, n0r, nm1, nm1', nm1l, nm1r, nm1g, nsL, nI_m1, Nat.add_sub_cancel, vpn, vpL, nclL, le32, leLL, leLN, leNL, leNN, inA, nb0, nb1, gi_wi_n, gi_wi_e, gi_rw_n, gi_rw_e, aWi_rw, ifl, ifl_, ifle, ifle_, ifq, ifq_, ifnq, ifnq_, ifnl, ifnl_, ifnle, ifnle_, z399 ok, z416 ok, z417 ok, r399_27 ok, r399_28 ok, r2, h0, m_in, hi, bI_0]
    exact inv_ref i (by omega)
  · simp (disch := omega) only [s113_0, s113_1, s113_4, s113_7, s113_8, s113_9, s113_12, s113_13, s113_14, s113_15, s113_18, s113_19, s113_21, s113_24, s113_25, s113_26, s113_29, s113_30, s113_31, s113_34, s113_37, s113_38, s113_39, s113_42, s113_45, s113_46, s113_47, s113_50, s113_51, s113_52, s113_54, s113_55, s113_58, s113_59, s113_62, s113_63, s113_66, s113_69, s113_70, s113_73, s113_74, s113_77, s113_80, s113_83, s113_84, s113_87, s113_90, s121_0, s121_1, s121_4, s121_5, s121_6, s121_7, s121_8, s121_9, s121_10, s121_11, true_or, or_true, or_false, false_or, or_self, Int32.reduceLT, Int32.reduceLE, Nat.add_zero, Nat.zero_add, Nat.not_lt_zero, not_false_eq_true, not_true_eq_false, and_assoc, kl_q, kl_i, kl_r, kl_n, kl_0, kl_l, cs_0, cs_i, cs_r, cs_n, cs_l, aRf_s, aRf_n, gi_wl, gi_wr, gl_wi, gl_wl, gl_wr, gr_wi, gr_wl, gr_wr, sh_wi, sh_wl, sh_wr, gl_cp, gr_cp, sh_cp, gl_rw, gr_rw, sh_rw, gi_rl, gr_rl, sh_rl, Option.toList_some, Option.toList_none, List.nil_append, List.cons_append, List.append_nil, Option.some.injEq, Prod.mk.injEq, and_true, true_and, and_self, if_true, if_false, reduceCtorEq, Nat.reduceLeDiff, Nat.reduceLT, Nat.reduceAdd, Nat.reduceEqDiff, false_and, and_false, exists_const, exists_eq_left, exists_eq_left', exists_and_left, and_assoc, nltL, nltR, nleL, nleR, neqL, neqR, naL, naR, nmL, nmR, nI_ltI, nI_leI, nI_eq, nI_add, nI_mul, nI_clamp, n0l, n0r, nm1, nm1', nm1l, nm1r, nm1g, nsL, nI_m1, Nat.add_sub_cancel, vpn, vpL, nclL, le32, leLL, leLN, leNL, leNN, inA, nb0, nb1, gi_wi_n, gi_wi_e, gi_rw_n, gi_rw_e, aWi_rw, ifl, ifl_, ifle, ifle_, ifq, ifq_, ifnq, ifnq_, ifnl, ifnl_, ifnle, ifnle_, z32 ok, z79 ok, z80 ok, z81 ok, z82 ok, z83 ok, z84 ok, z371 ok, r32_5 ok, r79_0 ok, r79_1 ok, r79_2 ok, r79_3 ok, r79_4 ok, r32_13 ok, c_noRide ok hM' r1, h0d, bI_0]
    refine ⟨-1, rfl, ?_⟩
    have ok : OK (aWi g 371 1 (gi g 371 1 + 1)) := ok
    have r2 : gi (aWi g 371 1 (gi g 371 1 + 1)) 399 25 = nI M := r2
    have r4 : gi (aWi g 371 1 (gi g 371 1 + 1)) 399 26 = nI F := r4
    have r6 : gi (aWi g 371 1 (gi g 371 1 + 1)) 413 0 = nI L := r6
    simp (disch := omega) only [s232_0, s232_1, s232_2, s232_5, s232_8, s232_9, s232_12, s232_13, s232_14, s232_16, s232_19, s232_22, s232_23, s232_26, s232_27, s232_28, s232_31, s232_34, s232_35, s232_38, s232_39, s232_42, s232_45, s232_46, s232_47, s232_48, s232_50, s232_51, s232_54, s232_55, s232_58, s232_59, s232_62, s232_65, s232_68, s232_69, s232_72, s232_74, s232_75, s223_0, s223_1, s223_2, s223_5, s223_6, s223_9, s223_10, s223_11, s223_12, s223_13, s223_14, s223_15, s223_16, s223_17, s223_20, s223_21, s223_24, s223_25, true_or, or_true, or_false, false_or, or_self, Int32.reduceLT, Int32.reduceLE, Nat.add_zero, Nat.zero_add, Nat.not_lt_zero, not_false_eq_true, not_true_eq_false, and_assoc, kl_q, kl_i, kl_r, kl_n, kl_0, kl_l, cs_0, cs_i, cs_r, cs_n, cs_l, aRf_s, aRf_n, gi_wl, gi_wr, gl_wi, gl_wl, gl_wr, gr_wi, gr_wl, gr_wr, sh_wi, sh_wl, sh_wr, gl_cp, gr_cp, sh_cp, gl_rw, gr_rw, sh_rw, gi_rl, gr_rl, sh_rl, Option.toList_some, Option.toList_none, List.nil_append, List.cons_append, List.append_nil, Option.some.injEq, Prod.mk.injEq, and_true, true_and, and_self, if_true, if_false, reduceCtorEq, Nat.reduceLeDiff, Nat.reduceLT, Nat.reduceAdd, Nat.reduceEqDiff, false_and, and_false, exists_const, exists_eq_left, exists_eq_left', exists_and_left, and_assoc, nltL, nltR, nleL, nleR, neqL, neqR, naL, naR, nmL, nmR, nI_ltI, nI_leI, nI_eq, nI_add, nI_mul, nI_clamp, n0l, n0r, nm1, nm1', nm1l, nm1r, nm1g, nsL, nI_m1, Nat.add_sub_cancel, vpn, vpL, nclL, le32, leLL, leLN, leNL, leNN, inA, nb0, nb1, gi_wi_n, gi_wi_e, gi_rw_n, gi_rw_e, aWi_rw, ifl, ifl_, ifle, ifle_, ifq, ifq_, ifnq, ifnq_, ifnl, ifnl_, ifnle, ifnle_, z399 ok, z416 ok, z417 ok, r399_27 ok, r399_28 ok, r2, h0, m_in, hi, bI_0]
    exact inv_ref i (by omega)
  by_cases hl : 999 < D + n
  · have n1 : ¬ n < 1 := by omega
    simp (disch := omega) only [s113_0, s113_1, s113_4, s113_7, s113_8, s113_9, s113_12, s113_13, s113_14, s113_15, s113_18, s113_19, s113_21, s113_24, s113_25, s113_26, s113_29, s113_30, s113_31, s113_34, s113_37, s113_38, s113_39, s113_42, s113_45, s113_46, s113_47, s113_50, s113_51, s113_52, s113_54, s113_55, s113_58, s113_59, s113_62, s113_63, s113_66, s113_69, s113_70, s113_73, s113_74, s113_77, s113_80, s113_83, s113_84, s113_87, s113_90, s121_0, s121_1, s121_4, s121_5, s121_6, s121_7, s121_8, s121_9, s121_10, s121_11, true_or, or_true, or_false, false_or, or_self, Int32.reduceLT, Int32.reduceLE, Nat.add_zero, Nat.zero_add, Nat.not_lt_zero, not_false_eq_true, not_true_eq_false, and_assoc, kl_q, kl_i, kl_r, kl_n, kl_0, kl_l, cs_0, cs_i, cs_r, cs_n, cs_l, aRf_s, aRf_n, gi_wl, gi_wr, gl_wi, gl_wl, gl_wr, gr_wi, gr_wl, gr_wr, sh_wi, sh_wl, sh_wr, gl_cp, gr_cp, sh_cp, gl_rw, gr_rw, sh_rw, gi_rl, gr_rl, sh_rl, Option.toList_some, Option.toList_none, List.nil_append, List.cons_append, List.append_nil, Option.some.injEq, Prod.mk.injEq, and_true, true_and, and_self, if_true, if_false, reduceCtorEq, Nat.reduceLeDiff, Nat.reduceLT, Nat.reduceAdd, Nat.reduceEqDiff, false_and, and_false, exists_const, exists_eq_left, exists_eq_left', exists_and_left, and_assoc, nltL, nltR, nleL, nleR, neqL, neqR, naL, naR, nmL, nmR, nI_ltI, nI_leI, nI_eq, nI_add, nI_mul, nI_clamp, n0l, n0r, nm1, nm1', nm1l, nm1r, nm1g, nsL, nI_m1, Nat.add_sub_cancel, vpn, vpL, nclL, le32, leLL, leLN, leNL, leNN, inA, nb0, nb1, gi_wi_n, gi_wi_e, gi_rw_n, gi_rw_e, aWi_rw, ifl, ifl_, ifle, ifle_, ifq, ifq_, ifnq, ifnq_, ifnl, ifnl_, ifnle, ifnle_, z32 ok, z79 ok, z371 ok, r32_5 ok, r32_13 ok, c_noRide ok hM' r1, h0d, bI_0, w6, n1]
    refine ⟨-1, rfl, ?_⟩
    have ok : OK (aWi g 371 4 (gi g 371 4 + 1)) := ok
    have r2 : gi (aWi g 371 4 (gi g 371 4 + 1)) 399 25 = nI M := r2
    simp (disch := omega) only [s232_0, s232_1, s232_2, s232_5, s232_8, s232_9, s232_12, s232_13, s232_14, s232_16, s232_19, s232_22, s232_23, s232_26, s232_27, s232_28, s232_31, s232_34, s232_35, s232_38, s232_39, s232_42, s232_45, s232_46, s232_47, s232_48, s232_50, s232_51, s232_54, s232_55, s232_58, s232_59, s232_62, s232_65, s232_68, s232_69, s232_72, s232_74, s232_75, s223_0, s223_1, s223_2, s223_5, s223_6, s223_9, s223_10, s223_11, s223_12, s223_13, s223_14, s223_15, s223_16, s223_17, s223_20, s223_21, s223_24, s223_25, s231_0, s231_1, s231_2, s231_4, s231_7, s231_10, s231_11, s231_14, s231_16, s231_17, s231_18, s231_19, s231_22, s231_25, s231_26, s231_29, s231_30, true_or, or_true, or_false, false_or, or_self, Int32.reduceLT, Int32.reduceLE, Nat.add_zero, Nat.zero_add, Nat.not_lt_zero, not_false_eq_true, not_true_eq_false, and_assoc, kl_q, kl_i, kl_r, kl_n, kl_0, kl_l, cs_0, cs_i, cs_r, cs_n, cs_l, aRf_s, aRf_n, gi_wl, gi_wr, gl_wi, gl_wl, gl_wr, gr_wi, gr_wl, gr_wr, sh_wi, sh_wl, sh_wr, gl_cp, gr_cp, sh_cp, gl_rw, gr_rw, sh_rw, gi_rl, gr_rl, sh_rl, Option.toList_some, Option.toList_none, List.nil_append, List.cons_append, List.append_nil, Option.some.injEq, Prod.mk.injEq, and_true, true_and, and_self, if_true, if_false, reduceCtorEq, Nat.reduceLeDiff, Nat.reduceLT, Nat.reduceAdd, Nat.reduceEqDiff, false_and, and_false, exists_const, exists_eq_left, exists_eq_left', exists_and_left, and_assoc, nltL, nltR, nleL, nleR, neqL, neqR, naL, naR, nmL, nmR, nI_ltI, nI_leI, nI_eq, nI_add, nI_mul, nI_clamp, n0l, n0r, nm1, nm1', nm1l, nm1r, nm1g, nsL, nI_m1, Nat.add_sub_cancel, vpn, vpL, nclL, le32, leLL, leLN, leNL, leNN, inA, nb0, nb1, gi_wi_n, gi_wi_e, gi_rw_n, gi_rw_e, aWi_rw, ifl, ifl_, ifle, ifle_, ifq, ifq_, ifnq, ifnq_, ifnl, ifnl_, ifnle, ifnle_, z399 ok, z416 ok, z417 ok, r399_27 ok, r399_28 ok, r2, h0, m_in, hi, bI_0, Bool.true_eq_false, x32]
    exact inv_ref i (by omega)
  obtain ⟨q0, eq0⟩ : ∃ q0 : Ab, q0 = (s, D, c, ks, Dk, lg) := ⟨_, rfl⟩
  have ab0 : AB M q0 := by
    rw [eq0]
    exact ⟨i10, fun x hx => ⟨i11.1, hx, i11.2.2⟩⟩
  have hq0 : q0.2.1 = D := by rw [eq0]
  have abk : ∀ k, k ≤ n → AB M (qD g M F L W q0 k) := fun k hk => qD_ab ab0 hM hW k (by omega)
  have ddk : ∀ k, (qD g M F L W q0 k).2.1 = D + k := fun k => by rw [qD_d, hq0]
  have n1 : ¬ n < 1 := by omega
  simp (disch := omega) only [s113_0, s113_1, s113_4, s113_7, s113_8, s113_9, s113_12, s113_13, s113_14, s113_15, s113_18, s113_19, s113_21, s113_24, s113_25, s113_26, s113_29, s113_30, s113_31, s113_34, s113_37, s113_38, s113_39, s113_42, s113_45, s113_46, s113_47, s113_50, s113_51, s113_52, s113_54, s113_55, s113_58, s113_59, s113_62, s113_63, s113_66, s113_69, s113_70, s113_73, s113_74, s113_77, s113_80, s113_83, s113_84, s113_87, s113_90, true_or, or_true, or_false, false_or, or_self, Int32.reduceLT, Int32.reduceLE, Nat.add_zero, Nat.zero_add, Nat.not_lt_zero, not_false_eq_true, not_true_eq_false, and_assoc, kl_q, kl_i, kl_r, kl_n, kl_0, kl_l, cs_0, cs_i, cs_r, cs_n, cs_l, aRf_s, aRf_n, gi_wl, gi_wr, gl_wi, gl_wl, gl_wr, gr_wi, gr_wl, gr_wr, sh_wi, sh_wl, sh_wr, gl_cp, gr_cp, sh_cp, gl_rw, gr_rw, sh_rw, gi_rl, gr_rl, sh_rl, Option.toList_some, Option.toList_none, List.nil_append, List.cons_append, List.append_nil, Option.some.injEq, Prod.mk.injEq, and_true, true_and, and_self, if_true, if_false, reduceCtorEq, Nat.reduceLeDiff, Nat.reduceLT, Nat.reduceAdd, Nat.reduceEqDiff, false_and, and_false, exists_const, exists_eq_left, exists_eq_left', exists_and_left, and_assoc, nltL, nltR, nleL, nleR, neqL, neqR, naL, naR, nmL, nmR, nI_ltI, nI_leI, nI_eq, nI_add, nI_mul, nI_clamp, n0l, n0r, nm1, nm1', nm1l, nm1r, nm1g, nsL, nI_m1, Nat.add_sub_cancel, vpn, vpL, nclL, le32, leLL, leLN, leNL, leNN, inA, nb0, nb1, gi_wi_n, gi_wi_e, gi_rw_n, gi_rw_e, aWi_rw, ifl, ifl_, ifle, ifle_, ifq, ifq_, ifnq, ifnq_, ifnl, ifnl_, ifnle, ifnle_, z32 ok, z79 ok, r32_5 ok, c_noRide ok hM' r1, h0d, bI_0, w6, n1]
  refine aLoop n (fun k lv h => lv = [some (.ref 32), some (.int (nI n)), some (.int (nI k))] ∧ Ag CDZ g h ∧ CR h M F (qD g M F L W q0 k)) ?_ ?_ 0 _ _ (Nat.zero_le _) ⟨rfl, Ag.refl ok, nx, hnx, by rw [qD, eq0]; exact i5, by rw [qD, eq0]; exact i6, by rw [qD, eq0]; exact i7⟩
  · rintro k lv h hk ⟨rfl, a1, nx', hn', c1, c2, c3⟩ hk2
    have ok := a1.1
    have e1 : ¬ n ≤ k := by omega
    have ab := abk k (by omega)
    rw [s113_53]
    simp (disch := omega) only [s113_0, s113_1, s113_4, s113_7, s113_8, s113_9, s113_12, s113_13, s113_14, s113_15, s113_18, s113_19, s113_21, s113_24, s113_25, s113_26, s113_29, s113_30, s113_31, s113_34, s113_37, s113_38, s113_39, s113_42, s113_45, s113_46, s113_47, s113_50, s113_51, s113_52, s113_54, s113_55, s113_58, s113_59, s113_62, s113_63, s113_66, s113_69, s113_70, s113_73, s113_74, s113_77, s113_80, s113_83, s113_84, s113_87, s113_90, true_or, or_true, or_false, false_or, or_self, Int32.reduceLT, Int32.reduceLE, Nat.add_zero, Nat.zero_add, Nat.not_lt_zero, not_false_eq_true, not_true_eq_false, and_assoc, kl_q, kl_i, kl_r, kl_n, kl_0, kl_l, cs_0, cs_i, cs_r, cs_n, cs_l, aRf_s, aRf_n, gi_wl, gi_wr, gl_wi, gl_wl, gl_wr, gr_wi, gr_wl, gr_wr, sh_wi, sh_wl, sh_wr, gl_cp, gr_cp, sh_cp, gl_rw, gr_rw, sh_rw, gi_rl, gr_rl, sh_rl, Option.toList_some, Option.toList_none, List.nil_append, List.cons_append, List.append_nil, Option.some.injEq, Prod.mk.injEq, and_true, true_and, and_self, if_true, if_false, reduceCtorEq, Nat.reduceLeDiff, Nat.reduceLT, Nat.reduceAdd, Nat.reduceEqDiff, false_and, and_false, exists_const, exists_eq_left, exists_eq_left', exists_and_left, and_assoc, nltL, nltR, nleL, nleR, neqL, neqR, naL, naR, nmL, nmR, nI_ltI, nI_leI, nI_eq, nI_add, nI_mul, nI_clamp, n0l, n0r, nm1, nm1', nm1l, nm1r, nm1g, nsL, nI_m1, Nat.add_sub_cancel, vpn, vpL, nclL, le32, leLL, leLN, leNL, leNN, inA, nb0, nb1, gi_wi_n, gi_wi_e, gi_rw_n, gi_rw_e, aWi_rw, ifl, ifl_, ifle, ifle_, ifq, ifq_, ifnq, ifnq_, ifnl, ifnl_, ifnle, ifnle_, z32 ok, z89 ok, r32_5 ok, r32_7 ok, e1]
    refine c_actsKeep ok hM hF (ab.2 nx' hn').1 hn' c1 c2 (fun h1 b1 kc1 => ?_)
    have tz1 : Ag CDZ g h1 := a1.trans (b1.mono (fun a k z => Or.inl (by unfold AZ BZ at z; omega)))
    have sc1 : StC h1 M F 79 (qD g M F L W q0 k).1 := c1.eq (fun b k hb => b1.2 _ _ (by unfold AZ BZ; omega))
    have di1 : DiR h1 (qD g M F L W q0 k).2.2.2.2.2 86 (qD g M F L W q0 k).2.1 ((qD g M F L W q0 k).2.2.2.2.1 0) := c3.eq (fun w k hw => b1.2 _ _ (by unfold AZ BZ; omega))
    have ok := tz1.1
    simp (disch := omega) only [s113_0, s113_1, s113_4, s113_7, s113_8, s113_9, s113_12, s113_13, s113_14, s113_15, s113_18, s113_19, s113_21, s113_24, s113_25, s113_26, s113_29, s113_30, s113_31, s113_34, s113_37, s113_38, s113_39, s113_42, s113_45, s113_46, s113_47, s113_50, s113_51, s113_52, s113_54, s113_55, s113_58, s113_59, s113_62, s113_63, s113_66, s113_69, s113_70, s113_73, s113_74, s113_77, s113_80, s113_83, s113_84, s113_87, s113_90, true_or, or_true, or_false, false_or, or_self, Int32.reduceLT, Int32.reduceLE, Nat.add_zero, Nat.zero_add, Nat.not_lt_zero, not_false_eq_true, not_true_eq_false, and_assoc, kl_q, kl_i, kl_r, kl_n, kl_0, kl_l, cs_0, cs_i, cs_r, cs_n, cs_l, aRf_s, aRf_n, gi_wl, gi_wr, gl_wi, gl_wl, gl_wr, gr_wi, gr_wl, gr_wr, sh_wi, sh_wl, sh_wr, gl_cp, gr_cp, sh_cp, gl_rw, gr_rw, sh_rw, gi_rl, gr_rl, sh_rl, Option.toList_some, Option.toList_none, List.nil_append, List.cons_append, List.append_nil, Option.some.injEq, Prod.mk.injEq, and_true, true_and, and_self, if_true, if_false, reduceCtorEq, Nat.reduceLeDiff, Nat.reduceLT, Nat.reduceAdd, Nat.reduceEqDiff, false_and, and_false, exists_const, exists_eq_left, exists_eq_left', exists_and_left, and_assoc, nltL, nltR, nleL, nleR, neqL, neqR, naL, naR, nmL, nmR, nI_ltI, nI_leI, nI_eq, nI_add, nI_mul, nI_clamp, n0l, n0r, nm1, nm1', nm1l, nm1r, nm1g, nsL, nI_m1, Nat.add_sub_cancel, vpn, vpL, nclL, le32, leLL, leLN, leNL, leNN, inA, nb0, nb1, gi_wi_n, gi_wi_e, gi_rw_n, gi_rw_e, aWi_rw, ifl, ifl_, ifle, ifle_, ifq, ifq_, ifnq, ifnq_, ifnl, ifnl_, ifnle, ifnle_, z32 ok]
    refine c_ride2 tz1 it i4 sc1 ab.1 h0' (fun h2 sa2 cc2 gp2 => ?_)
    have ok := sa2.1
    simp (disch := omega) only [s113_0, s113_1, s113_4, s113_7, s113_8, s113_9, s113_12, s113_13, s113_14, s113_15, s113_18, s113_19, s113_21, s113_24, s113_25, s113_26, s113_29, s113_30, s113_31, s113_34, s113_37, s113_38, s113_39, s113_42, s113_45, s113_46, s113_47, s113_50, s113_51, s113_52, s113_54, s113_55, s113_58, s113_59, s113_62, s113_63, s113_66, s113_69, s113_70, s113_73, s113_74, s113_77, s113_80, s113_83, s113_84, s113_87, s113_90, true_or, or_true, or_false, false_or, or_self, Int32.reduceLT, Int32.reduceLE, Nat.add_zero, Nat.zero_add, Nat.not_lt_zero, not_false_eq_true, not_true_eq_false, and_assoc, kl_q, kl_i, kl_r, kl_n, kl_0, kl_l, cs_0, cs_i, cs_r, cs_n, cs_l, aRf_s, aRf_n, gi_wl, gi_wr, gl_wi, gl_wl, gl_wr, gr_wi, gr_wl, gr_wr, sh_wi, sh_wl, sh_wr, gl_cp, gr_cp, sh_cp, gl_rw, gr_rw, sh_rw, gi_rl, gr_rl, sh_rl, Option.toList_some, Option.toList_none, List.nil_append, List.cons_append, List.append_nil, Option.some.injEq, Prod.mk.injEq, and_true, true_and, and_self, if_true, if_false, reduceCtorEq, Nat.reduceLeDiff, Nat.reduceLT, Nat.reduceAdd, Nat.reduceEqDiff, false_and, and_false, exists_const, exists_eq_left, exists_eq_left', exists_and_left, and_assoc, nltL, nltR, nleL, nleR, neqL, neqR, naL, naR, nmL, nmR, nI_ltI, nI_leI, nI_eq, nI_add, nI_mul, nI_clamp, n0l, n0r, nm1, nm1', nm1l, nm1r, nm1g, nsL, nI_m1, Nat.add_sub_cancel, vpn, vpL, nclL, le32, leLL, leLN, leNL, leNN, inA, nb0, nb1, gi_wi_n, gi_wi_e, gi_rw_n, gi_rw_e, aWi_rw, ifl, ifl_, ifle, ifle_, ifq, ifq_, ifnq, ifnq_, ifnl, ifnl_, ifnle, ifnle_, z32 ok]
    refine c_close2 tz1 sa2 it ab ab.1 (show nxt nx' < 40 by unfold nxt; split <;> omega) sc1 kc1 di1 cc2 gp2 (fun h3 a3 cr3 => ?_)
    simp (disch := omega) only [s113_0, s113_1, s113_4, s113_7, s113_8, s113_9, s113_12, s113_13, s113_14, s113_15, s113_18, s113_19, s113_21, s113_24, s113_25, s113_26, s113_29, s113_30, s113_31, s113_34, s113_37, s113_38, s113_39, s113_42, s113_45, s113_46, s113_47, s113_50, s113_51, s113_52, s113_54, s113_55, s113_58, s113_59, s113_62, s113_63, s113_66, s113_69, s113_70, s113_73, s113_74, s113_77, s113_80, s113_83, s113_84, s113_87, s113_90, true_or, or_true, or_false, false_or, or_self, Int32.reduceLT, Int32.reduceLE, Nat.add_zero, Nat.zero_add, Nat.not_lt_zero, not_false_eq_true, not_true_eq_false, and_assoc, kl_q, kl_i, kl_r, kl_n, kl_0, kl_l, cs_0, cs_i, cs_r, cs_n, cs_l, aRf_s, aRf_n, gi_wl, gi_wr, gl_wi, gl_wl, gl_wr, gr_wi, gr_wl, gr_wr, sh_wi, sh_wl, sh_wr, gl_cp, gr_cp, sh_cp, gl_rw, gr_rw, sh_rw, gi_rl, gr_rl, sh_rl, Option.toList_some, Option.toList_none, List.nil_append, List.cons_append, List.append_nil, Option.some.injEq, Prod.mk.injEq, and_true, true_and, and_self, if_true, if_false, reduceCtorEq, Nat.reduceLeDiff, Nat.reduceLT, Nat.reduceAdd, Nat.reduceEqDiff, false_and, and_false, exists_const, exists_eq_left, exists_eq_left', exists_and_left, and_assoc, nltL, nltR, nleL, nleR, neqL, neqR, naL, naR, nmL, nmR, nI_ltI, nI_leI, nI_eq, nI_add, nI_mul, nI_clamp, n0l, n0r, nm1, nm1', nm1l, nm1r, nm1g, nsL, nI_m1, Nat.add_sub_cancel, vpn, vpL, nclL, le32, leLL, leLN, leNL, leNN, inA, nb0, nb1, gi_wi_n, gi_wi_e, gi_rw_n, gi_rw_e, aWi_rw, ifl, ifl_, ifle, ifle_, ifq, ifq_, ifnq, ifnq_, ifnl, ifnl_, ifnle, ifnle_]
    exact hk2 _ h3 ⟨rfl, a3, cr3⟩
  · rintro lv h ⟨rfl, a1, cr⟩
    have ok := a1.1
    have w6' : gi h 79 8 = nI (D + n) := by
      obtain ⟨nx', hn', c1, c2, c3⟩ := cr
      rw [c1.2.2.2.2.2, (abk n (Nat.le_refl _)).1.2.2.2.1, ddk]
    have tz1 : ∀ a k, TZ a k → gi h a k = gi g a k := fun a k z => a1.2 a k (nCT z)
    have r2' : gi h 399 25 = nI M := by rw [tz1 _ _ (by unfold TZ; omega), r2]
    have mr0 : MR h (qD g M F L W q0 0) := by
      rw [qD, eq0]
      exact ⟨i8.eq (fun k _ => a1.2 _ _ (fun z => z.elim (by omega) (nS3 (by omega)))), i9.eq (a1.2 _ _ (fun z => z.elim (by omega) (by unfold ScrP; omega))) (fun k => a1.2 _ _ (fun z => z.elim (by omega) (nS3 (by omega))))⟩
    have x32' : gi h 416 32 = nI D := by
      rw [a1.2 _ _ (fun z => z.elim (by omega) (nS3 (by omega))), x32]
    rw [s113_53]
    simp (disch := omega) only [s113_0, s113_1, s113_4, s113_7, s113_8, s113_9, s113_12, s113_13, s113_14, s113_15, s113_18, s113_19, s113_21, s113_24, s113_25, s113_26, s113_29, s113_30, s113_31, s113_34, s113_37, s113_38, s113_39, s113_42, s113_45, s113_46, s113_47, s113_50, s113_51, s113_52, s113_54, s113_55, s113_58, s113_59, s113_62, s113_63, s113_66, s113_69, s113_70, s113_73, s113_74, s113_77, s113_80, s113_83, s113_84, s113_87, s113_90, true_or, or_true, or_false, false_or, or_self, Int32.reduceLT, Int32.reduceLE, Nat.add_zero, Nat.zero_add, Nat.not_lt_zero, not_false_eq_true, not_true_eq_false, and_assoc, kl_q, kl_i, kl_r, kl_n, kl_0, kl_l, cs_0, cs_i, cs_r, cs_n, cs_l, aRf_s, aRf_n, gi_wl, gi_wr, gl_wi, gl_wl, gl_wr, gr_wi, gr_wl, gr_wr, sh_wi, sh_wl, sh_wr, gl_cp, gr_cp, sh_cp, gl_rw, gr_rw, sh_rw, gi_rl, gr_rl, sh_rl, Option.toList_some, Option.toList_none, List.nil_append, List.cons_append, List.append_nil, Option.some.injEq, Prod.mk.injEq, and_true, true_and, and_self, if_true, if_false, reduceCtorEq, Nat.reduceLeDiff, Nat.reduceLT, Nat.reduceAdd, Nat.reduceEqDiff, false_and, and_false, exists_const, exists_eq_left, exists_eq_left', exists_and_left, and_assoc, nltL, nltR, nleL, nleR, neqL, neqR, naL, naR, nmL, nmR, nI_ltI, nI_leI, nI_eq, nI_add, nI_mul, nI_clamp, n0l, n0r, nm1, nm1', nm1l, nm1r, nm1g, nsL, nI_m1, Nat.add_sub_cancel, vpn, vpL, nclL, le32, leLL, leLN, leNL, leNN, inA, nb0, nb1, gi_wi_n, gi_wi_e, gi_rw_n, gi_rw_e, aWi_rw, ifl, ifl_, ifle, ifle_, ifq, ifq_, ifnq, ifnq_, ifnl, ifnl_, ifnle, ifnle_, z32 ok, z79 ok, r32_5 ok, Nat.le_refl, w6']
    refine ⟨_, rfl, ?_⟩
    simp (disch := omega) only [s232_0, s232_1, s232_2, s232_5, s232_8, s232_9, s232_12, s232_13, s232_14, s232_16, s232_19, s232_22, s232_23, s232_26, s232_27, s232_28, s232_31, s232_34, s232_35, s232_38, s232_39, s232_42, s232_45, s232_46, s232_47, s232_48, s232_50, s232_51, s232_54, s232_55, s232_58, s232_59, s232_62, s232_65, s232_68, s232_69, s232_72, s232_74, s232_75, s223_0, s223_1, s223_2, s223_5, s223_6, s223_9, s223_10, s223_11, s223_12, s223_13, s223_14, s223_15, s223_16, s223_17, s223_20, s223_21, s223_24, s223_25, s231_0, s231_1, s231_2, s231_4, s231_7, s231_10, s231_11, s231_14, s231_16, s231_17, s231_18, s231_19, s231_22, s231_25, s231_26, s231_29, s231_30, true_or, or_true, or_false, false_or, or_self, Int32.reduceLT, Int32.reduceLE, Nat.add_zero, Nat.zero_add, Nat.not_lt_zero, not_false_eq_true, not_true_eq_false, and_assoc, kl_q, kl_i, kl_r, kl_n, kl_0, kl_l, cs_0, cs_i, cs_r, cs_n, cs_l, aRf_s, aRf_n, gi_wl, gi_wr, gl_wi, gl_wl, gl_wr, gr_wi, gr_wl, gr_wr, sh_wi, sh_wl, sh_wr, gl_cp, gr_cp, sh_cp, gl_rw, gr_rw, sh_rw, gi_rl, gr_rl, sh_rl, Option.toList_some, Option.toList_none, List.nil_append, List.cons_append, List.append_nil, Option.some.injEq, Prod.mk.injEq, and_true, true_and, and_self, if_true, if_false, reduceCtorEq, Nat.reduceLeDiff, Nat.reduceLT, Nat.reduceAdd, Nat.reduceEqDiff, false_and, and_false, exists_const, exists_eq_left, exists_eq_left', exists_and_left, and_assoc, nltL, nltR, nleL, nleR, neqL, neqR, naL, naR, nmL, nmR, nI_ltI, nI_leI, nI_eq, nI_add, nI_mul, nI_clamp, n0l, n0r, nm1, nm1', nm1l, nm1r, nm1g, nsL, nI_m1, Nat.add_sub_cancel, vpn, vpL, nclL, le32, leLL, leLN, leNL, leNN, inA, nb0, nb1, gi_wi_n, gi_wi_e, gi_rw_n, gi_rw_e, aWi_rw, ifl, ifl_, ifle, ifle_, ifq, ifq_, ifnq, ifnq_, ifnl, ifnl_, ifnle, ifnle_, z399 ok, z416 ok, r399_27 ok, r2', h0, m_in, hi, bI_0, Bool.true_eq_false, x32']
    refine aLoop n (fun k lv h' => lv = [some (.ref 399), some (.int (nI n)), some (.int (nI k))] ∧ Ag MDZ h h' ∧ MR h' (qD g M F L W q0 k)) ?_ ?_ 0 _ _ (Nat.zero_le _) ⟨rfl, Ag.refl ok, mr0⟩
    · rintro k lv h' hk ⟨rfl, a2, m1, m2⟩ hk2
      have ok := a2.1
      have e1 : ¬ n ≤ k := by omega
      have ab := abk k (by omega)
      rw [s232_49]
      simp (disch := omega) only [s232_0, s232_1, s232_2, s232_5, s232_8, s232_9, s232_12, s232_13, s232_14, s232_16, s232_19, s232_22, s232_23, s232_26, s232_27, s232_28, s232_31, s232_34, s232_35, s232_38, s232_39, s232_42, s232_45, s232_46, s232_47, s232_48, s232_50, s232_51, s232_54, s232_55, s232_58, s232_59, s232_62, s232_65, s232_68, s232_69, s232_72, s232_74, s232_75, true_or, or_true, or_false, false_or, or_self, Int32.reduceLT, Int32.reduceLE, Nat.add_zero, Nat.zero_add, Nat.not_lt_zero, not_false_eq_true, not_true_eq_false, and_assoc, kl_q, kl_i, kl_r, kl_n, kl_0, kl_l, cs_0, cs_i, cs_r, cs_n, cs_l, aRf_s, aRf_n, gi_wl, gi_wr, gl_wi, gl_wl, gl_wr, gr_wi, gr_wl, gr_wr, sh_wi, sh_wl, sh_wr, gl_cp, gr_cp, sh_cp, gl_rw, gr_rw, sh_rw, gi_rl, gr_rl, sh_rl, Option.toList_some, Option.toList_none, List.nil_append, List.cons_append, List.append_nil, Option.some.injEq, Prod.mk.injEq, and_true, true_and, and_self, if_true, if_false, reduceCtorEq, Nat.reduceLeDiff, Nat.reduceLT, Nat.reduceAdd, Nat.reduceEqDiff, false_and, and_false, exists_const, exists_eq_left, exists_eq_left', exists_and_left, and_assoc, nltL, nltR, nleL, nleR, neqL, neqR, naL, naR, nmL, nmR, nI_ltI, nI_leI, nI_eq, nI_add, nI_mul, nI_clamp, n0l, n0r, nm1, nm1', nm1l, nm1r, nm1g, nsL, nI_m1, Nat.add_sub_cancel, vpn, vpL, nclL, le32, leLL, leLN, leNL, leNN, inA, nb0, nb1, gi_wi_n, gi_wi_e, gi_rw_n, gi_rw_e, aWi_rw, ifl, ifl_, ifle, ifle_, ifq, ifq_, ifnq, ifnq_, ifnl, ifnl_, ifnle, ifnle_, z399 ok, e1]
      refine m_keep ok (ab.2 0 (by omega)).1 m1 m2 (ab.2 0 (by omega)).2.2.2.1 (D' := (qD g M F L W q0 k).2.1 + 1) (fun h3 b3 km3 => ?_)
      have a3 : Ag MDZ h h3 := a2.trans (b3.mono (fun a k z => by unfold MK at z; unfold MDZ; omega))
      have tz3 : ∀ a k, TZ a k → gi h3 a k = gi g a k := fun a k z => by rw [a3.2 a k (nMT z), tz1 a k z]
      have ok := a3.1
      simp (disch := omega) only [s232_0, s232_1, s232_2, s232_5, s232_8, s232_9, s232_12, s232_13, s232_14, s232_16, s232_19, s232_22, s232_23, s232_26, s232_27, s232_28, s232_31, s232_34, s232_35, s232_38, s232_39, s232_42, s232_45, s232_46, s232_47, s232_48, s232_50, s232_51, s232_54, s232_55, s232_58, s232_59, s232_62, s232_65, s232_68, s232_69, s232_72, s232_74, s232_75, true_or, or_true, or_false, false_or, or_self, Int32.reduceLT, Int32.reduceLE, Nat.add_zero, Nat.zero_add, Nat.not_lt_zero, not_false_eq_true, not_true_eq_false, and_assoc, kl_q, kl_i, kl_r, kl_n, kl_0, kl_l, cs_0, cs_i, cs_r, cs_n, cs_l, aRf_s, aRf_n, gi_wl, gi_wr, gl_wi, gl_wl, gl_wr, gr_wi, gr_wl, gr_wr, sh_wi, sh_wl, sh_wr, gl_cp, gr_cp, sh_cp, gl_rw, gr_rw, sh_rw, gi_rl, gr_rl, sh_rl, Option.toList_some, Option.toList_none, List.nil_append, List.cons_append, List.append_nil, Option.some.injEq, Prod.mk.injEq, and_true, true_and, and_self, if_true, if_false, reduceCtorEq, Nat.reduceLeDiff, Nat.reduceLT, Nat.reduceAdd, Nat.reduceEqDiff, false_and, and_false, exists_const, exists_eq_left, exists_eq_left', exists_and_left, and_assoc, nltL, nltR, nleL, nleR, neqL, neqR, naL, naR, nmL, nmR, nI_ltI, nI_leI, nI_eq, nI_add, nI_mul, nI_clamp, n0l, n0r, nm1, nm1', nm1l, nm1r, nm1g, nsL, nI_m1, Nat.add_sub_cancel, vpn, vpL, nclL, le32, leLL, leLN, leNL, leNN, inA, nb0, nb1, gi_wi_n, gi_wi_e, gi_rw_n, gi_rw_e, aWi_rw, ifl, ifl_, ifle, ifle_, ifq, ifq_, ifnq, ifnq_, ifnl, ifnl_, ifnle, ifnle_, z399 ok]
      refine m_day2 tz3 ok it i4 ab ab.1 h0' (by rw [ddk]; omega) (m1.eq (fun k _ => b3.2 _ _ (by unfold MK; omega))) km3 (fun h4 a4 mr4 => ?_)
      simp (disch := omega) only [s232_0, s232_1, s232_2, s232_5, s232_8, s232_9, s232_12, s232_13, s232_14, s232_16, s232_19, s232_22, s232_23, s232_26, s232_27, s232_28, s232_31, s232_34, s232_35, s232_38, s232_39, s232_42, s232_45, s232_46, s232_47, s232_48, s232_50, s232_51, s232_54, s232_55, s232_58, s232_59, s232_62, s232_65, s232_68, s232_69, s232_72, s232_74, s232_75, true_or, or_true, or_false, false_or, or_self, Int32.reduceLT, Int32.reduceLE, Nat.add_zero, Nat.zero_add, Nat.not_lt_zero, not_false_eq_true, not_true_eq_false, and_assoc, kl_q, kl_i, kl_r, kl_n, kl_0, kl_l, cs_0, cs_i, cs_r, cs_n, cs_l, aRf_s, aRf_n, gi_wl, gi_wr, gl_wi, gl_wl, gl_wr, gr_wi, gr_wl, gr_wr, sh_wi, sh_wl, sh_wr, gl_cp, gr_cp, sh_cp, gl_rw, gr_rw, sh_rw, gi_rl, gr_rl, sh_rl, Option.toList_some, Option.toList_none, List.nil_append, List.cons_append, List.append_nil, Option.some.injEq, Prod.mk.injEq, and_true, true_and, and_self, if_true, if_false, reduceCtorEq, Nat.reduceLeDiff, Nat.reduceLT, Nat.reduceAdd, Nat.reduceEqDiff, false_and, and_false, exists_const, exists_eq_left, exists_eq_left', exists_and_left, and_assoc, nltL, nltR, nleL, nleR, neqL, neqR, naL, naR, nmL, nmR, nI_ltI, nI_leI, nI_eq, nI_add, nI_mul, nI_clamp, n0l, n0r, nm1, nm1', nm1l, nm1r, nm1g, nsL, nI_m1, Nat.add_sub_cancel, vpn, vpL, nclL, le32, leLL, leLN, leNL, leNN, inA, nb0, nb1, gi_wi_n, gi_wi_e, gi_rw_n, gi_rw_e, aWi_rw, ifl, ifl_, ifle, ifle_, ifq, ifq_, ifnq, ifnq_, ifnl, ifnl_, ifnle, ifnle_]
      exact hk2 _ h4 ⟨rfl, a3.trans a4, mr4⟩
    · rintro lv h' ⟨rfl, a2, mr⟩
      have ok := a2.1
      have y32 : gi h' 416 32 = nI (D + n) := by
        rw [rdM mr.1 (by omega), (abk n (Nat.le_refl _)).1.2.2.2.1, ddk]
      rw [s232_49]
      simp (disch := omega) only [s232_0, s232_1, s232_2, s232_5, s232_8, s232_9, s232_12, s232_13, s232_14, s232_16, s232_19, s232_22, s232_23, s232_26, s232_27, s232_28, s232_31, s232_34, s232_35, s232_38, s232_39, s232_42, s232_45, s232_46, s232_47, s232_48, s232_50, s232_51, s232_54, s232_55, s232_58, s232_59, s232_62, s232_65, s232_68, s232_69, s232_72, s232_74, s232_75, true_or, or_true, or_false, false_or, or_self, Int32.reduceLT, Int32.reduceLE, Nat.add_zero, Nat.zero_add, Nat.not_lt_zero, not_false_eq_true, not_true_eq_false, and_assoc, kl_q, kl_i, kl_r, kl_n, kl_0, kl_l, cs_0, cs_i, cs_r, cs_n, cs_l, aRf_s, aRf_n, gi_wl, gi_wr, gl_wi, gl_wl, gl_wr, gr_wi, gr_wl, gr_wr, sh_wi, sh_wl, sh_wr, gl_cp, gr_cp, sh_cp, gl_rw, gr_rw, sh_rw, gi_rl, gr_rl, sh_rl, Option.toList_some, Option.toList_none, List.nil_append, List.cons_append, List.append_nil, Option.some.injEq, Prod.mk.injEq, and_true, true_and, and_self, if_true, if_false, reduceCtorEq, Nat.reduceLeDiff, Nat.reduceLT, Nat.reduceAdd, Nat.reduceEqDiff, false_and, and_false, exists_const, exists_eq_left, exists_eq_left', exists_and_left, and_assoc, nltL, nltR, nleL, nleR, neqL, neqR, naL, naR, nmL, nmR, nI_ltI, nI_leI, nI_eq, nI_add, nI_mul, nI_clamp, n0l, n0r, nm1, nm1', nm1l, nm1r, nm1g, nsL, nI_m1, Nat.add_sub_cancel, vpn, vpL, nclL, le32, leLL, leLN, leNL, leNN, inA, nb0, nb1, gi_wi_n, gi_wi_e, gi_rw_n, gi_rw_e, aWi_rw, ifl, ifl_, ifle, ifle_, ifq, ifq_, ifnq, ifnq_, ifnl, ifnl_, ifnle, ifnle_, z399 ok, z416 ok, r399_27 ok, Nat.le_refl, y32]
      exact inv_q i a1 a2 cr mr (abk n (Nat.le_refl _))
end D3
