-- deps: 26.work2
/-! ===== laws: worth ===== -/
def segC (g : aM) (i p0 : Nat) : Nat → Int32 := fun p => gi g 401 (520 * i + p0 + p)
def segV (g : aM) (i p0 : Nat) : Nat → Int32 := fun p => gi g 402 (520 * i + p0 + p)
/-- law i of the class and of the reference are the same, and well made -/
def LwR (h : aM) (i : Nat) : Prop := ∃ s c, s ≤ 240 ∧ c ≤ 80 ∧ gi h (375 + 6 * i) 3 = nI s ∧ gi h (375 + 6 * i) 4 = nI c ∧ gi h 404 i = nI c ∧
  (∀ p, p < s → gi h (376 + 6 * i) p = encC (gi h 401 (520 * i + p)) (gi h 402 (520 * i + p)) ∧ tkOK (gi h 401 (520 * i + p)) (gi h 402 (520 * i + p))) ∧
  (∀ q, q < c → ∃ a b e, a ≤ b ∧ b ≤ e ∧ e ≤ s ∧ gi h (377 + 6 * i) q = nI a ∧ gi h 405 (140 * i + q) = nI a ∧ gi h (378 + 6 * i) q = nI b ∧ gi h 406 (140 * i + q) = nI b ∧ gi h 407 (140 * i + q) = nI e ∧
    (if q + 1 < c then gi h (377 + 6 * i) (q + 1) else nI s) = nI e ∧ (a = b ∨ tyS (segC h i a) [] (b - a) = some [true]) ∧ tyS (segC h i b) [] (e - b) = some [false])
def cN (x : Int32) : Nat := x.toNatClampNeg
def lwV (g : aM) (i : Nat) (lt : Nat → Int32) : Nat → Nat → Int32
  | 0, _ => 0
  | r + 1, q => if gi g 405 (140 * i + q) = gi g 406 (140 * i + q) ∨ ¬ (evS lt (segC g i (cN (gi g 405 (140 * i + q)))) (segV g i (cN (gi g 405 (140 * i + q)))) (cN (gi g 406 (140 * i + q)) - cN (gi g 405 (140 * i + q)))).headD 0 = 0
      then (evS lt (segC g i (cN (gi g 406 (140 * i + q)))) (segV g i (cN (gi g 406 (140 * i + q)))) (cN (gi g 407 (140 * i + q)) - cN (gi g 406 (140 * i + q)))).headD 0 else lwV g i lt r (q + 1)
def wfL (g : aM) (i : Nat) (lt : Nat → Int32) : Int32 := lwV g i lt (cN (gi g 404 i)) 0
def ltF (v d p m r n : Int32) : Nat → Int32 := fun l => if l = 0 then v else if l = 1 then d else if l = 2 then p else if l = 3 then m else if l = 4 then r else n
/-- only what laws are worked with has changed -/
def LSc (a : Nat) : Bool := a == 379 || a == 380 || a == 385 || a == 386 || a == 391 || a == 392 || a == 397 || a == 398 || a == 408 || a == 409
def SmL (h h' : aM) : Prop := OK h' ∧ (∀ a k, gl h' a k = gl h a k) ∧ (∀ a k, gr h' a k = gr h a k) ∧ ∀ a k, LSc a = false → gi h' a k = gi h a k
theorem SmL.refl {h : aM} (o : OK h) : SmL h h := ⟨o, fun _ _ => rfl, fun _ _ => rfl, fun _ _ _ => rfl⟩
theorem SmL.trans {h h' h'' : aM} (a : SmL h h') (b : SmL h' h'') : SmL h h'' := ⟨b.1, fun x k => (b.2.1 x k).trans (a.2.1 x k), fun x k => (b.2.2.1 x k).trans (a.2.2.1 x k), fun x k q => (b.2.2.2 x k q).trans (a.2.2.2 x k q)⟩
theorem SmL.rw {h h' : aM} (s : SmL h h') {a : Nat} {f : Nat → Int32} (q : LSc a = true) : SmL h (aRw h' a f) := ⟨s.1, s.2.1, s.2.2.1, fun b j r => by
  rw [gi_rw, if_neg, s.2.2.2 b j r]
  rintro rfl
  rw [q] at r
  cases r⟩
theorem SmL.wi {h h' : aM} (s : SmL h h') {a k : Nat} {x : Int32} (q : LSc a = true) : SmL h (aWi h' a k x) := ⟨s.1, s.2.1, s.2.2.1, fun b j r => by
  rw [gi_wi, if_neg, s.2.2.2 b j r]
  rintro ⟨rfl, -⟩
  rw [q] at r
  cases r⟩
theorem four {P : Nat → Prop} (h0 : P 0) (h1 : P 1) (h2 : P 2) (h3 : P 3) {i : Nat} (hi : i < 4) : P i := by
  match i, hi with
  | 0, _ => exact h0
  | 1, _ => exact h1
  | 2, _ => exact h2
  | 3, _ => exact h3
theorem lsc375 {i : Nat} (hi : i < 4) : LSc (375 + 6 * i) = false ∧ LSc (376 + 6 * i) = false ∧ LSc (377 + 6 * i) = false ∧ LSc (378 + 6 * i) = false ∧ LSc (379 + 6 * i) = true ∧ LSc (380 + 6 * i) = true :=
  four (P := fun i => LSc (375 + 6 * i) = false ∧ LSc (376 + 6 * i) = false ∧ LSc (377 + 6 * i) = false ∧ LSc (378 + 6 * i) = false ∧ LSc (379 + 6 * i) = true ∧ LSc (380 + 6 * i) = true) (by decide) (by decide) (by decide) (by decide) hi
theorem lsc_scr {a k : Nat} (h : LSc a = true) : Scr a k = true := by
  unfold LSc at h
  simp only [Bool.or_eq_true, beq_iff_eq] at h
  rcases h with ((((((((h | h) | h) | h) | h) | h) | h) | h) | h) | h <;> subst h <;> rfl
theorem SmL.same {g h h' : aM} (s : Same g h) (t : SmL h h') : Same g h' := ⟨t.1, fun a k q => by
  rw [t.2.2.2 a k, s.2 a k q]
  cases e : LSc a
  · rfl
  · rw [lsc_scr e] at q
    cases q⟩
theorem tyV_all {c v lt : Nat → Int32} (hlt : ∀ l, l < 6 → bd (lt l)) : ∀ {n : Nat} {ts : List Bool}, (∀ p, p < n → tkOK (c p) (v p)) → tyS c [] n = some ts → TyV ts (evS lt c v n)
  | 0, ts, _, h => by
    cases h
    trivial
  | n + 1, ts, hk, h => by
    simp only [tyS] at h
    cases h2 : tyS c [] n with
    | none => simp [h2] at h
    | some q =>
      rw [h2] at h
      exact ty_step hlt (hk n (by omega)) h (tyV_all hlt (fun p hp => hk p (by omega)) h2)
theorem ev_one {c v lt : Nat → Int32} (hlt : ∀ l, l < 6 → bd (lt l)) {n : Nat} {ty : Bool} (hk : ∀ p, p < n → tkOK (c p) (v p)) (h : tyS c [] n = some [ty]) : evS lt c v n = [(evS lt c v n).headD 0] := by
  have h2 := tyV_all hlt hk h
  match hs : evS lt c v n, h2 with
  | [x], _ => rfl
  | [], h2 => cases ty <;> exact h2.elim
  | x :: y :: t, h2 => cases ty <;> exact h2.2.elim
theorem cw_worth {d : Nat} {h : aM} {Q : Option Value → aM → Prop} {i : Nat} {x0 x1 x2 x3 x4 x5 : Int32} (ok : OK h) (hi : i < 4) (lw : LwR h i) (hlt : ∀ l, l < 6 → bd (ltF x0 x1 x2 x3 x4 x5 l)) (hq : ∀ h', SmL h h' → Q (some (.int (wfL h i (ltF x0 x1 x2 x3 x4 x5)))) h') :
    AW (d + 2) 35 0 [some (.ref (375 + 6 * i)), some (.int x0), some (.int x1), some (.int x2), some (.int x3), some (.int x4), some (.int x5), none, none] [] h Q := by
  obtain ⟨s, c, hs, hc, k1, k2, k3, k4, k5⟩ := lw
  obtain ⟨l1, l2, l3, l4, l5, l6⟩ := lsc375 hi
  have s0 : ∃ h0, SmL h h0 ∧ (∀ l, l < 6 → gi h0 (379 + 6 * i) l = ltF x0 x1 x2 x3 x4 x5 l) ∧ h0 = aWi (aWi (aWi (aWi (aWi (aWi h (379 + 6 * i) 0 x0) (379 + 6 * i) 1 x1) (379 + 6 * i) 2 x2) (379 + 6 * i) 3 x3) (379 + 6 * i) 4 x4) (379 + 6 * i) 5 x5 := by
    refine ⟨_, ((((((SmL.refl ok).wi l5).wi l5).wi l5).wi l5).wi l5).wi l5, ?_, rfl⟩
    intro l hl
    have : l = 0 ∨ l = 1 ∨ l = 2 ∨ l = 3 ∨ l = 4 ∨ l = 5 := by omega
    rcases this with rfl | rfl | rfl | rfl | rfl | rfl <;> simp [gi_wi, ltF]
  obtain ⟨h0, m0, m1, m2⟩ := s0
  simp (disch := omega) only [s35_0, s35_1, s35_4, s35_5, s35_6, s35_7, s35_8, s35_11, s35_12, s35_13, s35_14, s35_15, s35_18, s35_19, s35_20, s35_21, s35_22, s35_25, s35_26, s35_28, s35_29, s35_30, s35_33, s35_34, s35_36, s35_37, s35_38, s35_41, s35_42, s35_44, s35_45, s35_46, s35_50, s35_51, s35_54, s35_57, s35_58, s35_61, s35_63, s35_64, s35_65, s35_68, s35_70, s35_71, s35_74, s35_75, s35_76, s35_79, s35_81, s35_82, s35_83, s35_86, s35_88, s35_89, s35_92, s35_95, s35_96, s35_99, s35_100, s35_102, s35_104, s35_107, s35_108, s35_109, s35_112, s35_114, s35_115, s35_117, s35_118, s35_119, s35_120, s35_123, s35_126, s35_127, s35_130, s35_132, s35_133, s35_134, s35_135, s35_138, s35_139, s35_142, s35_145, s35_146, s35_149, s35_152, s35_153, true_or, or_true, or_false, false_or, or_self, Int32.reduceLT, Int32.reduceLE, Nat.add_zero, Nat.zero_add, Nat.not_lt_zero, not_false_eq_true, not_true_eq_false, and_assoc, kl_q, kl_i, kl_r, kl_n, kl_0, kl_l, cs_0, cs_i, cs_r, cs_n, cs_l, aRf_s, aRf_n, gi_wl, gi_wr, gl_wi, gl_wl, gl_wr, gr_wi, gr_wl, gr_wr, sh_wi, sh_wl, sh_wr, gl_cp, gr_cp, sh_cp, gl_rw, gr_rw, sh_rw, gi_rl, gr_rl, sh_rl, Option.toList_some, Option.toList_none, List.nil_append, List.cons_append, List.append_nil, Option.some.injEq, Prod.mk.injEq, and_true, true_and, and_self, if_true, if_false, reduceCtorEq, Nat.reduceLeDiff, Nat.reduceLT, Nat.reduceAdd, Nat.reduceEqDiff, false_and, and_false, exists_const, exists_eq_left, exists_eq_left', exists_and_left, and_assoc, nltL, nltR, nleL, nleR, neqL, neqR, naL, naR, nmL, nmR, nI_ltI, nI_leI, nI_eq, nI_add, nI_mul, nI_clamp, n0l, n0r, nm1, nm1', nm1l, nm1r, nm1g, nsL, nI_m1, Nat.add_sub_cancel, vpn, vpL, nclL, le32, leLL, leLN, leNL, leNN, inA, nb0, nb1, gi_wi_n, gi_wi_e, gi_rw_n, gi_rw_e, aWi_rw, q375 ok hi, g375_5 ok hi, q379 ok hi, ← m2]
  generalize hlf : ltF x0 x1 x2 x3 x4 x5 = lt at *
  refine aLoop c (fun q lv h' => ∃ w, lv = [some (.ref (375 + 6 * i)), some (.int x0), some (.int x1), some (.int x2), some (.int x3), some (.int x4), some (.int x5), some (.int (nI q)), w] ∧ SmL h h' ∧ (∀ l, l < 6 → gi h' (379 + 6 * i) l = lt l) ∧ wfL h i lt = lwV h i lt (c - q) q) ?_ ?_ 0 _ _ (Nat.zero_le _) ⟨none, rfl, m0, m1, ?_⟩
  · rintro q lv h' hqc ⟨w, rfl, sm, hl, hv⟩ hk
    obtain ⟨a, b, e, ab, be, es, f1, f2, f3, f4, f5, f6, f7, f8⟩ := k5 q hqc
    have ok' := sm.1
    have r1 := sm.2.2.2 _ q l3
    have r2 := sm.2.2.2 _ q l4
    have r3 := sm.2.2.2 _ 4 l1
    have r4 := sm.2.2.2 _ 3 l1
    have r5 := sm.2.2.2 _ (q + 1) l3
    rw [f1] at r1
    rw [f3] at r2
    rw [k2] at r3
    rw [k1] at r4
    have rc : ∀ p, p < s → gi h' (376 + 6 * i) p = encC (gi h 401 (520 * i + p)) (gi h 402 (520 * i + p)) ∧ tkOK (gi h 401 (520 * i + p)) (gi h 402 (520 * i + p)) := fun p hp => by
      rw [sm.2.2.2 _ p l2]
      exact k4 p hp
    have hv2 : lwV h i lt (c - q) q = if a = b ∨ ¬ (evS lt (segC h i a) (segV h i a) (b - a)).headD 0 = 0 then (evS lt (segC h i b) (segV h i b) (e - b)).headD 0 else lwV h i lt (c - (q + 1)) (q + 1) := by
      rw [show c - q = (c - (q + 1)) + 1 by omega, lwV, f2, f4, f5]
      unfold cN
      rw [nI_clamp (by omega), nI_clamp (by omega), nI_clamp (by omega)]
      simp only [nI_eq (show a < 2 ^ 31 by omega) (show b < 2 ^ 31 by omega)]
    rw [hv2] at hv
    have tk : ∀ p0 n, p0 + n ≤ s → ∀ p, p < n → gi h' (376 + 6 * i) (p0 + p) = encC (segC h i p0 p) (segV h i p0 p) ∧ tkOK (segC h i p0 p) (segV h i p0 p) := fun p0 n hn p hp => by
      have := rc (p0 + p) (by omega)
      unfold segC segV
      rw [Nat.add_assoc]
      exact this
    have run : ∀ (h2 : aM) (Q2 : Option Value → aM → Prop) (p0 p1 : Nat) (ty : Bool), p0 ≤ p1 → p1 ≤ s → tyS (segC h i p0) [] (p1 - p0) = some [ty] → SmL h h2 → (∀ l, l < 6 → gi h2 (379 + 6 * i) l = lt l) → (∀ h3, SmL h h3 → (∀ l, l < 6 → gi h3 (379 + 6 * i) l = lt l) → Q2 (some (.int ((evS lt (segC h i p0) (segV h i p0) (p1 - p0)).headD 0))) h3) →
        AW (d + 1) 36 0 [some (.ref (375 + 6 * i)), some (.int (nI p0)), some (.int (nI p1)), none, none, none] [] h2 Q2 := by
      intro h2 Q2 p0 p1 ty h01 h1s hty s2 hl2 hq2
      rw [show nI p1 = nI (p0 + (p1 - p0)) by rw [show p0 + (p1 - p0) = p1 by omega]]
      refine cw_work (c := segC h i p0) (v := segV h i p0) (lt := lt) (ty := ty) s2.1 hi (by omega) ?_ hty hl2 hlt (ev_one hlt (fun p hp => (tk p0 (p1 - p0) (by omega) p hp).2) hty) ?_
      · intro p hp
        have := tk p0 (p1 - p0) (by omega) p hp
        rw [sm.2.2.2 _ _ l2, ← s2.2.2.2 _ _ l2] at this
        exact this
      · intro f
        refine hq2 _ (s2.rw l6) (fun l hl => ?_)
        rw [gi_rw_n (by omega)]
        exact hl2 l hl
    have tail : ∀ (h2 : aM) (lv : aV), wfL h i lt = (evS lt (segC h i b) (segV h i b) (e - b)).headD 0 → SmL h h2 → (∀ l, l < 6 → gi h2 (379 + 6 * i) l = lt l) → AW (d + 1) 36 0 [some (.ref (375 + 6 * i)), some (.int (nI b)), some (.int (nI e)), none, none, none] [] h2 (fun v h3 => AW (d + 1 + 1) 35 145 lv v.toList h3 Q) := by
      intro h2 lv hw s2 hl2
      refine run h2 _ b e false be es f8 s2 hl2 (fun h3 s3 hl3 => ?_)
      simp only [s35_0, s35_1, s35_4, s35_5, s35_6, s35_7, s35_8, s35_11, s35_12, s35_13, s35_14, s35_15, s35_18, s35_19, s35_20, s35_21, s35_22, s35_25, s35_26, s35_28, s35_29, s35_30, s35_33, s35_34, s35_36, s35_37, s35_38, s35_41, s35_42, s35_44, s35_45, s35_46, s35_50, s35_51, s35_54, s35_57, s35_58, s35_61, s35_63, s35_64, s35_65, s35_68, s35_70, s35_71, s35_74, s35_75, s35_76, s35_79, s35_81, s35_82, s35_83, s35_86, s35_88, s35_89, s35_92, s35_95, s35_96, s35_99, s35_100, s35_102, s35_104, s35_107, s35_108, s35_109, s35_112, s35_114, s35_115, s35_117, s35_118, s35_119, s35_120, s35_123, s35_126, s35_127, s35_130, s35_132, s35_133, s35_134, s35_135, s35_138, s35_139, s35_142, s35_145, s35_146, s35_149, s35_152, s35_153, true_or, or_true, or_false, false_or, or_self, Int32.reduceLT, Int32.reduceLE, Nat.add_zero, Nat.zero_add, Nat.not_lt_zero, not_false_eq_true, not_true_eq_false, and_assoc, kl_q, kl_i, kl_r, kl_n, kl_0, kl_l, cs_0, cs_i, cs_r, cs_n, cs_l, aRf_s, aRf_n, gi_wl, gi_wr, gl_wi, gl_wl, gl_wr, gr_wi, gr_wl, gr_wr, sh_wi, sh_wl, sh_wr, gl_cp, gr_cp, sh_cp, gl_rw, gr_rw, sh_rw, gi_rl, gr_rl, sh_rl, Option.toList_some, Option.toList_none, List.nil_append, List.cons_append, List.append_nil, Option.some.injEq, Prod.mk.injEq, and_true, true_and, and_self, if_true, if_false, reduceCtorEq, Nat.reduceLeDiff, Nat.reduceLT, Nat.reduceAdd, Nat.reduceEqDiff, false_and, and_false, exists_const, exists_eq_left, exists_eq_left', exists_and_left, and_assoc]
      rw [← hw]
      exact hq _ s3
    have e80 : q < 80 := by omega
    have ecq : ¬ c ≤ q := by omega
    have e10 : ¬ (1 : Int32) = 0 := by decide
    have ex : (if c ≤ q + 1 then nI s else gi h (377 + 6 * i) (q + 1)) = nI e := by
      rw [← f6]
      by_cases hh : c ≤ q + 1
      · rw [if_pos hh, if_neg (by omega)]
      · rw [if_neg hh, if_pos (by omega)]
    rw [s35_48]
    simp (disch := omega) only [s35_0, s35_1, s35_4, s35_5, s35_6, s35_7, s35_8, s35_11, s35_12, s35_13, s35_14, s35_15, s35_18, s35_19, s35_20, s35_21, s35_22, s35_25, s35_26, s35_28, s35_29, s35_30, s35_33, s35_34, s35_36, s35_37, s35_38, s35_41, s35_42, s35_44, s35_45, s35_46, s35_50, s35_51, s35_54, s35_57, s35_58, s35_61, s35_63, s35_64, s35_65, s35_68, s35_70, s35_71, s35_74, s35_75, s35_76, s35_79, s35_81, s35_82, s35_83, s35_86, s35_88, s35_89, s35_92, s35_95, s35_96, s35_99, s35_100, s35_102, s35_104, s35_107, s35_108, s35_109, s35_112, s35_114, s35_115, s35_117, s35_118, s35_119, s35_120, s35_123, s35_126, s35_127, s35_130, s35_132, s35_133, s35_134, s35_135, s35_138, s35_139, s35_142, s35_145, s35_146, s35_149, s35_152, s35_153, true_or, or_true, or_false, false_or, or_self, Int32.reduceLT, Int32.reduceLE, Nat.add_zero, Nat.zero_add, Nat.not_lt_zero, not_false_eq_true, not_true_eq_false, and_assoc, kl_q, kl_i, kl_r, kl_n, kl_0, kl_l, cs_0, cs_i, cs_r, cs_n, cs_l, aRf_s, aRf_n, gi_wl, gi_wr, gl_wi, gl_wl, gl_wr, gr_wi, gr_wl, gr_wr, sh_wi, sh_wl, sh_wr, gl_cp, gr_cp, sh_cp, gl_rw, gr_rw, sh_rw, gi_rl, gr_rl, sh_rl, Option.toList_some, Option.toList_none, List.nil_append, List.cons_append, List.append_nil, Option.some.injEq, Prod.mk.injEq, and_true, true_and, and_self, if_true, if_false, reduceCtorEq, Nat.reduceLeDiff, Nat.reduceLT, Nat.reduceAdd, Nat.reduceEqDiff, false_and, and_false, exists_const, exists_eq_left, exists_eq_left', exists_and_left, and_assoc, nltL, nltR, nleL, nleR, neqL, neqR, naL, naR, nmL, nmR, nI_ltI, nI_leI, nI_eq, nI_add, nI_mul, nI_clamp, n0l, n0r, nm1, nm1', nm1l, nm1r, nm1g, nsL, nI_m1, Nat.add_sub_cancel, vpn, vpL, nclL, le32, leLL, leLN, leNL, leNN, inA, nb0, nb1, gi_wi_n, gi_wi_e, gi_rw_n, gi_rw_e, aWi_rw, q375 ok' hi, g375_0 ok' hi, g375_1 ok' hi, g375_2 ok' hi, q377 ok' hi, q378 ok' hi, r1, r2, r3, r4, r5, e80, ecq, e10]
    by_cases hab : a = b
    · rw [if_pos hab.symm]
      rw [if_pos (Or.inl hab)] at hv
      by_cases hh : c ≤ q + 1
      · rw [if_pos hh] at ex ⊢
        rw [ex]
        exact tail _ _ hv sm hl
      · rw [if_neg hh] at ex ⊢
        rw [ex]
        exact ⟨by omega, tail _ _ hv sm hl⟩
    · rw [if_neg (fun q => hab q.symm)]
      refine run h' _ a b true ab (by omega) (f7.resolve_left hab) sm hl (fun h3 s3 hl3 => ?_)
      have ok3 := s3.1
      have t1 := s3.2.2.2 _ q l3
      have t2 := s3.2.2.2 _ q l4
      have t3 := s3.2.2.2 _ 4 l1
      have t4 := s3.2.2.2 _ 3 l1
      have t5 := s3.2.2.2 _ (q + 1) l3
      rw [f1] at t1
      rw [f3] at t2
      rw [k2] at t3
      rw [k1] at t4
      generalize hev : (evS lt (segC h i a) (segV h i a) (b - a)).headD 0 = ev at *
      by_cases he : ev = 0
      · simp (disch := omega) only [s35_0, s35_1, s35_4, s35_5, s35_6, s35_7, s35_8, s35_11, s35_12, s35_13, s35_14, s35_15, s35_18, s35_19, s35_20, s35_21, s35_22, s35_25, s35_26, s35_28, s35_29, s35_30, s35_33, s35_34, s35_36, s35_37, s35_38, s35_41, s35_42, s35_44, s35_45, s35_46, s35_50, s35_51, s35_54, s35_57, s35_58, s35_61, s35_63, s35_64, s35_65, s35_68, s35_70, s35_71, s35_74, s35_75, s35_76, s35_79, s35_81, s35_82, s35_83, s35_86, s35_88, s35_89, s35_92, s35_95, s35_96, s35_99, s35_100, s35_102, s35_104, s35_107, s35_108, s35_109, s35_112, s35_114, s35_115, s35_117, s35_118, s35_119, s35_120, s35_123, s35_126, s35_127, s35_130, s35_132, s35_133, s35_134, s35_135, s35_138, s35_139, s35_142, s35_145, s35_146, s35_149, s35_152, s35_153, true_or, or_true, or_false, false_or, or_self, Int32.reduceLT, Int32.reduceLE, Nat.add_zero, Nat.zero_add, Nat.not_lt_zero, not_false_eq_true, not_true_eq_false, and_assoc, kl_q, kl_i, kl_r, kl_n, kl_0, kl_l, cs_0, cs_i, cs_r, cs_n, cs_l, aRf_s, aRf_n, gi_wl, gi_wr, gl_wi, gl_wl, gl_wr, gr_wi, gr_wl, gr_wr, sh_wi, sh_wl, sh_wr, gl_cp, gr_cp, sh_cp, gl_rw, gr_rw, sh_rw, gi_rl, gr_rl, sh_rl, Option.toList_some, Option.toList_none, List.nil_append, List.cons_append, List.append_nil, Option.some.injEq, Prod.mk.injEq, and_true, true_and, and_self, if_true, if_false, reduceCtorEq, Nat.reduceLeDiff, Nat.reduceLT, Nat.reduceAdd, Nat.reduceEqDiff, false_and, and_false, exists_const, exists_eq_left, exists_eq_left', exists_and_left, and_assoc, nltL, nltR, nleL, nleR, neqL, neqR, naL, naR, nmL, nmR, nI_ltI, nI_leI, nI_eq, nI_add, nI_mul, nI_clamp, n0l, n0r, nm1, nm1', nm1l, nm1r, nm1g, nsL, nI_m1, Nat.add_sub_cancel, vpn, vpL, nclL, le32, leLL, leLN, leNL, leNN, inA, nb0, nb1, gi_wi_n, gi_wi_e, gi_rw_n, gi_rw_e, aWi_rw, q375 ok3 hi, g375_0 ok3 hi, g375_1 ok3 hi, g375_2 ok3 hi, q377 ok3 hi, q378 ok3 hi, t1, t2, t3, t4, t5, e80, he]
        rw [if_neg (by rintro (h1 | h1); exact hab h1; exact h1 he)] at hv
        exact hk _ _ ⟨_, rfl, s3, hl3, hv⟩
      · simp (disch := omega) only [s35_0, s35_1, s35_4, s35_5, s35_6, s35_7, s35_8, s35_11, s35_12, s35_13, s35_14, s35_15, s35_18, s35_19, s35_20, s35_21, s35_22, s35_25, s35_26, s35_28, s35_29, s35_30, s35_33, s35_34, s35_36, s35_37, s35_38, s35_41, s35_42, s35_44, s35_45, s35_46, s35_50, s35_51, s35_54, s35_57, s35_58, s35_61, s35_63, s35_64, s35_65, s35_68, s35_70, s35_71, s35_74, s35_75, s35_76, s35_79, s35_81, s35_82, s35_83, s35_86, s35_88, s35_89, s35_92, s35_95, s35_96, s35_99, s35_100, s35_102, s35_104, s35_107, s35_108, s35_109, s35_112, s35_114, s35_115, s35_117, s35_118, s35_119, s35_120, s35_123, s35_126, s35_127, s35_130, s35_132, s35_133, s35_134, s35_135, s35_138, s35_139, s35_142, s35_145, s35_146, s35_149, s35_152, s35_153, true_or, or_true, or_false, false_or, or_self, Int32.reduceLT, Int32.reduceLE, Nat.add_zero, Nat.zero_add, Nat.not_lt_zero, not_false_eq_true, not_true_eq_false, and_assoc, kl_q, kl_i, kl_r, kl_n, kl_0, kl_l, cs_0, cs_i, cs_r, cs_n, cs_l, aRf_s, aRf_n, gi_wl, gi_wr, gl_wi, gl_wl, gl_wr, gr_wi, gr_wl, gr_wr, sh_wi, sh_wl, sh_wr, gl_cp, gr_cp, sh_cp, gl_rw, gr_rw, sh_rw, gi_rl, gr_rl, sh_rl, Option.toList_some, Option.toList_none, List.nil_append, List.cons_append, List.append_nil, Option.some.injEq, Prod.mk.injEq, and_true, true_and, and_self, if_true, if_false, reduceCtorEq, Nat.reduceLeDiff, Nat.reduceLT, Nat.reduceAdd, Nat.reduceEqDiff, false_and, and_false, exists_const, exists_eq_left, exists_eq_left', exists_and_left, and_assoc, nltL, nltR, nleL, nleR, neqL, neqR, naL, naR, nmL, nmR, nI_ltI, nI_leI, nI_eq, nI_add, nI_mul, nI_clamp, n0l, n0r, nm1, nm1', nm1l, nm1r, nm1g, nsL, nI_m1, Nat.add_sub_cancel, vpn, vpL, nclL, le32, leLL, leLN, leNL, leNN, inA, nb0, nb1, gi_wi_n, gi_wi_e, gi_rw_n, gi_rw_e, aWi_rw, q375 ok3 hi, g375_0 ok3 hi, g375_1 ok3 hi, g375_2 ok3 hi, q377 ok3 hi, q378 ok3 hi, t1, t2, t3, t4, t5, e80, he, e10]
        rw [if_pos (Or.inr he)] at hv
        by_cases hh : c ≤ q + 1
        · rw [if_pos hh] at ex ⊢
          rw [ex]
          exact tail _ _ hv s3 hl3
        · rw [if_neg hh] at ex ⊢
          rw [ex]
          exact ⟨by omega, tail _ _ hv s3 hl3⟩
  · rintro lv h' ⟨w, rfl, sm, hl, hv⟩
    have ok' := sm.1
    have r3 := sm.2.2.2 _ 4 l1
    rw [k2] at r3
    rw [s35_48]
    simp (disch := omega) only [s35_0, s35_1, s35_4, s35_5, s35_6, s35_7, s35_8, s35_11, s35_12, s35_13, s35_14, s35_15, s35_18, s35_19, s35_20, s35_21, s35_22, s35_25, s35_26, s35_28, s35_29, s35_30, s35_33, s35_34, s35_36, s35_37, s35_38, s35_41, s35_42, s35_44, s35_45, s35_46, s35_50, s35_51, s35_54, s35_57, s35_58, s35_61, s35_63, s35_64, s35_65, s35_68, s35_70, s35_71, s35_74, s35_75, s35_76, s35_79, s35_81, s35_82, s35_83, s35_86, s35_88, s35_89, s35_92, s35_95, s35_96, s35_99, s35_100, s35_102, s35_104, s35_107, s35_108, s35_109, s35_112, s35_114, s35_115, s35_117, s35_118, s35_119, s35_120, s35_123, s35_126, s35_127, s35_130, s35_132, s35_133, s35_134, s35_135, s35_138, s35_139, s35_142, s35_145, s35_146, s35_149, s35_152, s35_153, true_or, or_true, or_false, false_or, or_self, Int32.reduceLT, Int32.reduceLE, Nat.add_zero, Nat.zero_add, Nat.not_lt_zero, not_false_eq_true, not_true_eq_false, and_assoc, kl_q, kl_i, kl_r, kl_n, kl_0, kl_l, cs_0, cs_i, cs_r, cs_n, cs_l, aRf_s, aRf_n, gi_wl, gi_wr, gl_wi, gl_wl, gl_wr, gr_wi, gr_wl, gr_wr, sh_wi, sh_wl, sh_wr, gl_cp, gr_cp, sh_cp, gl_rw, gr_rw, sh_rw, gi_rl, gr_rl, sh_rl, Option.toList_some, Option.toList_none, List.nil_append, List.cons_append, List.append_nil, Option.some.injEq, Prod.mk.injEq, and_true, true_and, and_self, if_true, if_false, reduceCtorEq, Nat.reduceLeDiff, Nat.reduceLT, Nat.reduceAdd, Nat.reduceEqDiff, false_and, and_false, exists_const, exists_eq_left, exists_eq_left', exists_and_left, and_assoc, nltL, nltR, nleL, nleR, neqL, neqR, naL, naR, nmL, nmR, nI_ltI, nI_leI, nI_eq, nI_add, nI_mul, nI_clamp, n0l, n0r, nm1, nm1', nm1l, nm1r, nm1g, nsL, nI_m1, Nat.add_sub_cancel, vpn, vpL, nclL, le32, leLL, leLN, leNL, leNN, inA, nb0, nb1, gi_wi_n, gi_wi_e, gi_rw_n, gi_rw_e, aWi_rw, q375 ok' hi, r3, Nat.le_refl]
    rw [Nat.sub_self] at hv
    rw [show (0 : Int32) = wfL h i lt from hv.symm]
    exact hq _ sm
  · unfold wfL cN
    rw [k3, nI_clamp (by omega)]
    rfl
