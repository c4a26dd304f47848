-- deps: 9m.law1
/-! ===== the law's loop ===== -/
/-- the caught call -/
theorem AW_p {d k pc : Nat} {lv : aV} {st : List Value} {h : aM} {Q : Option Value → aM → Prop} {ins : Instr} {n r1 r2 r3 : Nat} {v : Value} {h1 : aM} (hc : aCD k pc = some (ins, n, r1, r2, r3)) (e1 : aIsRet ins = false) (e2 : aIsCall ins r1 = false) (e3 : aIsPm ins r1 = true) (h10 : 10 ≤ d) (h4 : 4 ≤ st.length) (h8 : ((st.drop 4).map fun v => v.category).sum ≤ 8) (hp : aPM h (st.take 4).reverse = some (v, h1))
    (w : AW d k (pc + n) lv (v :: st.drop 4) h1 Q) : AW d k pc lv st h Q := by
  obtain ⟨f, v', h', hr, hq⟩ := w
  refine ⟨f + 1, v', h', ?_, hq⟩
  unfold aRun
  simp only [hc, e1, e2, e3, if_true, Bool.false_eq_true, if_false, hp]
  rw [if_pos ⟨h10, h4, h8⟩]
  exact hr
theorem pm_419 {d : Nat} {lv : aV} {h h1 : aM} {v : Value} {p q : Int32} {Q : Option Value → aM → Prop} (h10 : 10 ≤ d) (hp : aPM h [.ref 32, .int p, .int q, .ref 429] = some (v, h1)) (w : AW d 300 422 lv [v] h1 Q) : AW d 300 419 lv [.ref 429, .int q, .int p, .ref 32] h Q := AW_p (st := [.ref 429, .int q, .int p, .ref 32]) rfl rfl rfl rfl h10 (Nat.le_refl 4) (Nat.zero_le 8) hp w
theorem pmg_ok {h : aM} {M : Nat} (ok : OK h) (hM : M ≤ 6) (e : gi h 58 3 = nI M) : aPMg h := by
  refine ⟨⟨z32 ok, r32_3 ok, r32_5 ok⟩, ⟨z58 ok, r58_1 ok, ?_⟩, ⟨z79 ok, r79_0 ok, r79_1 ok, r79_2 ok, r79_3 ok⟩, ⟨z80 ok, z81 ok, z82 ok, z83 ok⟩, ⟨z60 ok, fun i hi => ?_⟩, z429 ok⟩
  · rw [e, nI_toInt (by omega)]
    omega
  · have : i = 0 ∨ i = 1 ∨ i = 2 ∨ i = 3 ∨ i = 4 ∨ i = 5 := by omega
    rcases this with rfl | rfl | rfl | rfl | rfl | rfl
    · exact ⟨r60_0 ok, z61 ok⟩
    · exact ⟨r60_1 ok, z62 ok⟩
    · exact ⟨r60_2 ok, z63 ok⟩
    · exact ⟨r60_3 ok, z64 ok⟩
    · exact ⟨r60_4 ok, z65 ok⟩
    · exact ⟨r60_5 ok, z66 ok⟩
theorem aPM_t {h : aM} {p q : Int32} (g : aPMg h) (t : aPMt h p q) : aPM h [.ref 32, .int p, .int q, .ref 429] = some (.int 1, aNew h (99, 6)) := by
  simp only [aPM]
  rw [if_pos ⟨rfl, rfl, g⟩, if_pos t]
theorem aPM_n {h : aM} {p q : Int32} (g : aPMg h) (t : ¬ aPMt h p q) : aPM h [.ref 32, .int p, .int q, .ref 429] = some (.int 0, aWl h 429 0 (aPMv h p q).toInt64) := by
  simp only [aPM]
  rw [if_pos ⟨rfl, rfl, g⟩, if_neg t]
theorem ok_len {h : aM} (ok : OK h) : 430 ≤ h.1.length := by
  have := z429 ok
  unfold sh at this
  obtain ⟨q, _⟩ := List.getElem?_eq_some_iff.mp this
  omega
theorem sh_new {h : aM} {a : Nat} {s : Nat × Nat} (ha : a < h.1.length) : sh (aNew h s) a = sh h a := List.getElem?_append_left ha
theorem same_new {h : aM} (ok : OK h) : Same h (aNew h (99, 6)) := by
  have l := ok_len ok
  refine ⟨⟨fun a h1 h2 => ?_, fun a k hr => ?_⟩, fun a k hs => ?_⟩
  · rw [sh_new (by omega)]
    exact ok.1 a h1 h2
  · have ha : a < 430 := by
      apply Classical.byContradiction
      intro q
      apply hr
      unfold rft
      have e : rfL.getD a [] = [] := by
        rw [List.getD_eq_getElem?_getD, List.getElem?_eq_none]
        · rfl
        · rw [show rfL.length = 430 by decide +kernel]
          omega
      rw [e]
      rfl
    rw [← ok.2 a k hr]
    unfold gr aNew aRow
    exact if_neg (by omega)
  · unfold gi aNew aRow
    refine if_neg ?_
    rintro rfl
    rw [show Scr h.1.length k = true from scr_iff.mpr (by unfold ScrP; omega)] at hs
    cases hs
/-- man of the reference writes no long -/
def sMn (k : Nat) : Bool := k == 218 || k == 207 || k == 161 || k == 206
theorem sMn_ok : setB true sMn aCode 0 = true := by decide +kernel
section LAW3
variable {h : aM} {L j d : Nat} {Q : Option Value → aM → Prop}
theorem lc_5 {v5 v6 : Option Value} (i : Inv h) (hs : sh h 0 = some (100, L)) (hj : 6 * j + 6 ≤ L) (hL : L ≤ 3072) (nx : LNx d j h Q) : AW (d + 131) 300 405 [some (.ref 0), some (.ref 32), some (.ref 399), some (.ref 429), some (.int (nI (6 * j))), v5, v6] [] h Q := by
  have b1 : 6 * j + 1 < L := by omega
  have b2 : 6 * j + 2 < L := by omega
  have ok := i.ok
  have ln := ok_len ok
  simp (disch := omega) only [s300_405, s300_406, s300_407, s300_409, s300_410, s300_411, s300_412, s300_413, s300_415, s300_416, s300_417, s300_418, true_or, or_true, or_false, false_or, or_self, Int32.reduceLT, Int32.reduceLE, Nat.add_zero, Nat.zero_add, Nat.not_lt_zero, not_false_eq_true, not_true_eq_false, and_assoc, kl_q, kl_i, kl_r, kl_n, kl_0, kl_l, cs_0, cs_i, cs_r, cs_n, cs_l, aRf_s, aRf_n, gi_wl, gi_wr, gl_wi, gl_wl, gl_wr, gr_wi, gr_wl, gr_wr, sh_wi, sh_wl, sh_wr, gl_cp, gr_cp, sh_cp, gl_rw, gr_rw, sh_rw, gi_rl, gr_rl, sh_rl, Option.toList_some, Option.toList_none, List.nil_append, List.cons_append, List.append_nil, Option.some.injEq, Prod.mk.injEq, and_true, true_and, and_self, if_true, if_false, reduceCtorEq, Nat.reduceLeDiff, Nat.reduceLT, Nat.reduceAdd, Nat.reduceEqDiff, false_and, and_false, exists_const, exists_eq_left, exists_eq_left', exists_and_left, and_assoc, nltL, nltR, nleL, nleR, neqL, neqR, naL, naR, nmL, nmR, nI_ltI, nI_leI, nI_eq, nI_add, nI_mul, nI_clamp, n0l, n0r, nm1, nm1', nm1l, nm1r, nm1g, nsL, nI_m1, Nat.add_sub_cancel, vpn, vpL, nclL, le32, leLL, leLN, leNL, leNN, inA, nb0, nb1, gi_wi_n, gi_wi_e, gi_rw_n, gi_rw_e, aWi_rw, ifl, ifl_, ifle, ifle_, ifq, ifq_, ifnq, ifnq_, ifnl, ifnl_, ifnle, ifnle_, ifl, ifl_, ifle, ifle_, ifq, ifq_, ifnq, ifnq_, ifnl, ifnl_, ifnle, ifnle_, hs, b1, b2]
  obtain ⟨M, F, L', W, N, D, c, nx', n, T, s, lg, ks, Dk, i⟩ := i
  have it := i.2.1
  have pg := pmg_ok ok it.1 (rd58 it (Same.refl ok)).1
  have fin : ∀ (x : Int32) (b : Int64) (h1 : aM), Same h h1 → KeepH h h1 → (aPMt h (gi h 0 (6 * j + 1)) (gi h 0 (6 * j + 2)) → x = 1) → (¬ aPMt h (gi h 0 (6 * j + 1)) (gi h 0 (6 * j + 2)) → x = 0 ∧ gl h1 429 0 = (aPMv h (gi h 0 (6 * j + 1)) (gi h 0 (6 * j + 2))).toInt64) →
      AW (d + 131) 300 422 [some (.ref 0), some (.ref 32), some (.ref 399), some (.ref 429), some (.int (nI (6 * j))), v5, v6] [.int x] h1 Q := by
    intro x b h1 sa ke hx1 hx0
    have ok1 := sa.1
    have hs1 : sh h1 0 = some (100, L) := by
      obtain ⟨jj, _, e, _⟩ := ke.1
      unfold sh at hs ⊢
      rw [e, List.getElem?_append_left (by omega)]
      exact hs
    have y1 := z399 ok1
    have e1 : ∀ k, gi h1 0 k = gi h 0 k := fun k => ke.2 0 k (by decide)
    simp (disch := omega) only [s300_422, s300_424, s300_425, s300_426, s300_428, s300_429, s300_430, s300_431, s300_432, s300_434, s300_435, s300_436, s300_437, true_or, or_true, or_false, false_or, or_self, Int32.reduceLT, Int32.reduceLE, Nat.add_zero, Nat.zero_add, Nat.not_lt_zero, not_false_eq_true, not_true_eq_false, and_assoc, kl_q, kl_i, kl_r, kl_n, kl_0, kl_l, cs_0, cs_i, cs_r, cs_n, cs_l, aRf_s, aRf_n, gi_wl, gi_wr, gl_wi, gl_wl, gl_wr, gr_wi, gr_wl, gr_wr, sh_wi, sh_wl, sh_wr, gl_cp, gr_cp, sh_cp, gl_rw, gr_rw, sh_rw, gi_rl, gr_rl, sh_rl, Option.toList_some, Option.toList_none, List.nil_append, List.cons_append, List.append_nil, Option.some.injEq, Prod.mk.injEq, and_true, true_and, and_self, if_true, if_false, reduceCtorEq, Nat.reduceLeDiff, Nat.reduceLT, Nat.reduceAdd, Nat.reduceEqDiff, false_and, and_false, exists_const, exists_eq_left, exists_eq_left', exists_and_left, and_assoc, nltL, nltR, nleL, nleR, neqL, neqR, naL, naR, nmL, nmR, nI_ltI, nI_leI, nI_eq, nI_add, nI_mul, nI_clamp, n0l, n0r, nm1, nm1', nm1l, nm1r, nm1g, nsL, nI_m1, Nat.add_sub_cancel, vpn, vpL, nclL, le32, leLL, leLN, leNL, leNN, inA, nb0, nb1, gi_wi_n, gi_wi_e, gi_rw_n, gi_rw_e, aWi_rw, ifl, ifl_, ifle, ifle_, ifq, ifq_, ifnq, ifnq_, ifnl, ifnl_, ifnle, ifnle_, ifl, ifl_, ifle, ifle_, ifq, ifq_, ifnq, ifnq_, ifnl, ifnl_, ifnle, ifnle_, y1, hs1, e1, b1, b2]
    refine ((AW.kp sMn_ok rfl rfl (m_man (d := d + 127) (Q := fun v h2 => Same h h2 ∧ ∃ X, v = some (.int X) ∧ ((aPMt h (gi h 0 (6 * j + 1)) (gi h 0 (6 * j + 2)) ∧ gi h2 399 0 = 1) ∨ (¬ aPMt h (gi h 0 (6 * j + 1)) (gi h 0 (6 * j + 2)) ∧ gi h2 399 0 = 0 ∧ X = aPMv h (gi h 0 (6 * j + 1)) (gi h 0 (6 * j + 2))))) ok it i.2.2.2.2.1.1 i.2.2.2.2.2.1.1 sa _ _ (fun h2 X s2 c2 => ⟨s2, X, rfl, c2⟩))).lo rfl).mono ?_
    rintro v h2 ⟨⟨⟨s2, X, rfl, c2⟩, q1, q2, q3⟩, q4, q5, q6⟩
    have ok2 := s2.1
    have y2 := z399 ok2
    have ke2 : KeepH h h2 := by
      obtain ⟨⟨jj, hjj, ej, ej2⟩, lo⟩ := ke
      exact ⟨⟨jj, hjj, by rw [q1, ej], by rw [q2, ej2]⟩, lo.trans q6⟩
    have gle := q3 rfl 429 0
    have i2 : Inv h2 := ⟨M, F, L', W, N, D, c, nx', n, T, s, lg, ks, Dk, i.same s2⟩
    have go := fun v5 v6 => nx h2 v5 v6 ke2 i2
    rcases c2 with ⟨t, e0⟩ | ⟨t, e0, rfl⟩
    · have := hx1 t
      subst this
      simp (disch := omega) only [s300_440, s300_442, s300_443, s300_446, s300_448, s300_451, s300_452, s300_453, s300_455, s300_458, s300_459, s300_460, s300_461, s300_463, s300_464, s300_465, s300_468, s300_469, s300_470, s164_0, s164_1, s164_4, true_or, or_true, or_false, false_or, or_self, Int32.reduceLT, Int32.reduceLE, Nat.add_zero, Nat.zero_add, Nat.not_lt_zero, not_false_eq_true, not_true_eq_false, and_assoc, kl_q, kl_i, kl_r, kl_n, kl_0, kl_l, cs_0, cs_i, cs_r, cs_n, cs_l, aRf_s, aRf_n, gi_wl, gi_wr, gl_wi, gl_wl, gl_wr, gr_wi, gr_wl, gr_wr, sh_wi, sh_wl, sh_wr, gl_cp, gr_cp, sh_cp, gl_rw, gr_rw, sh_rw, gi_rl, gr_rl, sh_rl, Option.toList_some, Option.toList_none, List.nil_append, List.cons_append, List.append_nil, Option.some.injEq, Prod.mk.injEq, and_true, true_and, and_self, if_true, if_false, reduceCtorEq, Nat.reduceLeDiff, Nat.reduceLT, Nat.reduceAdd, Nat.reduceEqDiff, false_and, and_false, exists_const, exists_eq_left, exists_eq_left', exists_and_left, and_assoc, nltL, nltR, nleL, nleR, neqL, neqR, naL, naR, nmL, nmR, nI_ltI, nI_leI, nI_eq, nI_add, nI_mul, nI_clamp, n0l, n0r, nm1, nm1', nm1l, nm1r, nm1g, nsL, nI_m1, Nat.add_sub_cancel, vpn, vpL, nclL, le32, leLL, leLN, leNL, leNN, inA, nb0, nb1, gi_wi_n, gi_wi_e, gi_rw_n, gi_rw_e, aWi_rw, ifl, ifl_, ifle, ifle_, ifq, ifq_, ifnq, ifnq_, ifnl, ifnl_, ifnle, ifnle_, ifl, ifl_, ifle, ifle_, ifq, ifq_, ifnq, ifnq_, ifnl, ifnl_, ifnle, ifnle_, y2, e0]
      exact go _ _
    · obtain ⟨rfl, e⟩ := hx0 t
      have y3 := z429 ok2
      rw [e] at gle
      simp (disch := omega) only [s300_440, s300_442, s300_443, s300_446, s300_448, s300_451, s300_452, s300_453, s300_455, s300_458, s300_459, s300_460, s300_461, s300_463, s300_464, s300_465, s300_468, s300_469, s300_470, s164_0, s164_1, s164_4, true_or, or_true, or_false, false_or, or_self, Int32.reduceLT, Int32.reduceLE, Nat.add_zero, Nat.zero_add, Nat.not_lt_zero, not_false_eq_true, not_true_eq_false, and_assoc, kl_q, kl_i, kl_r, kl_n, kl_0, kl_l, cs_0, cs_i, cs_r, cs_n, cs_l, aRf_s, aRf_n, gi_wl, gi_wr, gl_wi, gl_wl, gl_wr, gr_wi, gr_wl, gr_wr, sh_wi, sh_wl, sh_wr, gl_cp, gr_cp, sh_cp, gl_rw, gr_rw, sh_rw, gi_rl, gr_rl, sh_rl, Option.toList_some, Option.toList_none, List.nil_append, List.cons_append, List.append_nil, Option.some.injEq, Prod.mk.injEq, and_true, true_and, and_self, if_true, if_false, reduceCtorEq, Nat.reduceLeDiff, Nat.reduceLT, Nat.reduceAdd, Nat.reduceEqDiff, false_and, and_false, exists_const, exists_eq_left, exists_eq_left', exists_and_left, and_assoc, nltL, nltR, nleL, nleR, neqL, neqR, naL, naR, nmL, nmR, nI_ltI, nI_leI, nI_eq, nI_add, nI_mul, nI_clamp, n0l, n0r, nm1, nm1', nm1l, nm1r, nm1g, nsL, nI_m1, Nat.add_sub_cancel, vpn, vpL, nclL, le32, leLL, leLN, leNL, leNN, inA, nb0, nb1, gi_wi_n, gi_wi_e, gi_rw_n, gi_rw_e, aWi_rw, ifl, ifl_, ifle, ifle_, ifq, ifq_, ifnq, ifnq_, ifnl, ifnl_, ifnle, ifnle_, ifl, ifl_, ifle, ifle_, ifq, ifq_, ifnq, ifnq_, ifnl, ifnl_, ifnle, ifnle_, y2, y3, e0, gle, lg_cmp_eq, eq_self]
      exact go _ _
  by_cases t : aPMt h (gi h 0 (6 * j + 1)) (gi h 0 (6 * j + 2))
  · refine pm_419 (by omega) (aPM_t pg t) (fin _ 0 _ (same_new ok) ⟨⟨1, by omega, rfl, rfl⟩, fun a k ha => ?_⟩ (fun _ => rfl) (fun q => absurd t q))
    unfold gi aNew aRow
    exact if_neg (by omega)
  · exact pm_419 (by omega) (aPM_n pg t) (fin _ 0 _ ⟨ok, fun _ _ _ => rfl⟩ (KeepH.of rfl rfl LoK.refl) (fun q => absurd q t) (fun _ => ⟨rfl, rfl⟩))
/-- the loop, with r more turns at most -/
theorem law_loop (hL : L ≤ 3072) : ∀ (r j : Nat) (h : aM) (v5 v6 : Option Value), L < 6 * (j + r) + 6 → 6 * j ≤ L → Inv h → sh h 0 = some (100, L) → AW (d + 131) 300 23 [some (.ref 0), some (.ref 32), some (.ref 399), some (.ref 429), some (.int (nI (6 * j))), v5, v6] [] h (fun v h' => v = some (.int 1) ∧ h'.1.length ≤ h.1.length + r ∧ h'.2.1 ≤ h.2.1 + 6 * r) := by
  intro r
  induction r with
  | zero =>
    intro j h v5 v6 hr hj i hs
    have hl : nI L - 6 < nI (6 * j) := by
      rw [lti, sbi, nI_toInt (by omega), nI_toInt (by omega)]
      have : (6 : Int32).toInt = 6 := rfl
      omega
    simp only [s300_23, s300_25, s300_26, s300_27, s300_29, s300_30, s300_1709, s300_1710, true_or, or_true, or_false, false_or, or_self, Int32.reduceLT, Int32.reduceLE, Nat.add_zero, Nat.zero_add, Nat.not_lt_zero, not_false_eq_true, not_true_eq_false, and_assoc, kl_q, kl_i, kl_r, kl_n, kl_0, kl_l, cs_0, cs_i, cs_r, cs_n, cs_l, aRf_s, aRf_n, gi_wl, gi_wr, gl_wi, gl_wl, gl_wr, gr_wi, gr_wl, gr_wr, sh_wi, sh_wl, sh_wr, gl_cp, gr_cp, sh_cp, gl_rw, gr_rw, sh_rw, gi_rl, gr_rl, sh_rl, Option.toList_some, Option.toList_none, List.nil_append, List.cons_append, List.append_nil, Option.some.injEq, Prod.mk.injEq, and_true, true_and, and_self, if_true, if_false, reduceCtorEq, Nat.reduceLeDiff, Nat.reduceLT, Nat.reduceAdd, Nat.reduceEqDiff, false_and, and_false, exists_const, exists_eq_left, exists_eq_left', exists_and_left, and_assoc, hs, hl, nb1]
    omega
  | succ r ih =>
    intro j h v5 v6 hr hj i hs
    by_cases hc : 6 * j + 6 ≤ L
    · have hl : ¬ (nI L - 6 < nI (6 * j)) := by
        rw [lti, sbi, nI_toInt (by omega), nI_toInt (by omega)]
        have : (6 : Int32).toInt = 6 := rfl
        omega
      have b0 : 6 * j < L := by omega
      simp (disch := omega) only [s300_23, s300_25, s300_26, s300_27, s300_29, s300_30, s300_33, s300_34, s300_36, s300_37, s300_39, true_or, or_true, or_false, false_or, or_self, Int32.reduceLT, Int32.reduceLE, Nat.add_zero, Nat.zero_add, Nat.not_lt_zero, not_false_eq_true, not_true_eq_false, and_assoc, kl_q, kl_i, kl_r, kl_n, kl_0, kl_l, cs_0, cs_i, cs_r, cs_n, cs_l, aRf_s, aRf_n, gi_wl, gi_wr, gl_wi, gl_wl, gl_wr, gr_wi, gr_wl, gr_wr, sh_wi, sh_wl, sh_wr, gl_cp, gr_cp, sh_cp, gl_rw, gr_rw, sh_rw, gi_rl, gr_rl, sh_rl, Option.toList_some, Option.toList_none, List.nil_append, List.cons_append, List.append_nil, Option.some.injEq, Prod.mk.injEq, and_true, true_and, and_self, if_true, if_false, reduceCtorEq, Nat.reduceLeDiff, Nat.reduceLT, Nat.reduceAdd, Nat.reduceEqDiff, false_and, and_false, exists_const, exists_eq_left, exists_eq_left', exists_and_left, and_assoc, hs, hl, inA, nI_clamp, n0l, b0, le32, leLN, leNN, nltL, vpn]
      have nx : LNx d j h (fun v h' => v = some (.int 1) ∧ h'.1.length ≤ h.1.length + (r + 1) ∧ h'.2.1 ≤ h.2.1 + 6 * (r + 1)) := by
        intro h' w5 w6 ke i'
        refine s300_1703.mpr (s300_1706.mpr ?_)
        rw [show nI (6 * j) + 6 = nI (6 * (j + 1)) by rw [Nat.mul_add]; exact nI_add _ 6]
        have hs' : sh h' 0 = some (100, L) := by
          obtain ⟨jj, _, e, _⟩ := ke.1
          have := ok_len i.ok
          unfold sh at hs ⊢
          rw [e, List.getElem?_append_left (by omega)]
          exact hs
        refine (ih (j + 1) h' _ _ (by omega) (by omega) i' hs').mono ?_
        rintro v h2 ⟨e, e1, e2⟩
        obtain ⟨jj, hjj, f1, f2⟩ := ke.1
        rw [f1, List.length_append, List.length_replicate] at e1
        exact ⟨e, by omega, by omega⟩
      rcases sw (n := 43) (by omega) (gi h 0 (6 * j) &&& 63) with hx | ⟨k, hk, hx⟩
      · exact (s300_40_d hx).mpr (nx _ _ _ (KeepH.of rfl rfl LoK.refl) i)
      · rw [hx]
        have : k = 0 ∨ k = 1 ∨ k = 2 ∨ k = 3 ∨ k = 4 ∨ k = 5 ∨ k = 6 ∨ k = 7 ∨ k = 8 ∨ k = 9 ∨ k = 10 ∨ k = 11 ∨ k = 12 ∨ k = 13 ∨ k = 14 ∨ k = 15 ∨ k = 16 ∨ k = 17 ∨ k = 18 ∨ k = 19 ∨ k = 20 ∨ k = 21 ∨ k = 22 ∨ k = 23 ∨ k = 24 ∨ k = 25 ∨ k = 26 ∨ k = 27 ∨ k = 28 ∨ k = 29 ∨ k = 30 ∨ k = 31 ∨ k = 32 ∨ k = 33 ∨ k = 34 ∨ k = 35 ∨ k = 36 ∨ k = 37 ∨ k = 38 ∨ k = 39 ∨ k = 40 ∨ k = 41 ∨ k = 42 ∨ k = 43 := by omega
        rcases this with rfl | rfl | rfl | rfl | rfl | rfl | rfl | rfl | rfl | rfl | rfl | rfl | rfl | rfl | rfl | rfl | rfl | rfl | rfl | rfl | rfl | rfl | rfl | rfl | rfl | rfl | rfl | rfl | rfl | rfl | rfl | rfl | rfl | rfl | rfl | rfl | rfl | rfl | rfl | rfl | rfl | rfl | rfl | rfl
        · exact s300_40_0.mpr (lc_0 i hs hc hL nx)
        · exact s300_40_1.mpr (lc_1 i hs hc hL nx)
        · exact s300_40_2.mpr (lc_2 i hs hc hL nx)
        · exact s300_40_3.mpr (lc_3 i hs hc hL nx)
        · exact s300_40_4.mpr (lc_4 i hs hc hL nx)
        · exact s300_40_5.mpr (lc_5 i hs hc hL nx)
        · exact s300_40_6.mpr (lc_6 i hs hc hL nx)
        · exact s300_40_7.mpr (lc_7 i hs hc hL nx)
        · exact s300_40_8.mpr (lc_8 i hs hc hL nx)
        · exact s300_40_9.mpr (lc_9 i hs hc hL nx)
        · exact s300_40_10.mpr (lc_10 i hs hc hL nx)
        · exact s300_40_11.mpr (lc_11 i hs hc hL nx)
        · exact s300_40_12.mpr (lc_12 i hs hc hL nx)
        · exact s300_40_13.mpr (lc_13 i hs hc hL nx)
        · exact s300_40_14.mpr (lc_14 i hs hc hL nx)
        · exact s300_40_15.mpr (lc_15 i hs hc hL nx)
        · exact s300_40_16.mpr (lc_16 i hs hc hL nx)
        · exact s300_40_17.mpr (lc_17 i hs hc hL nx)
        · exact s300_40_18.mpr (lc_18 i hs hc hL nx)
        · exact s300_40_19.mpr (lc_19 i hs hc hL nx)
        · exact s300_40_20.mpr (lc_20 i hs hc hL nx)
        · exact s300_40_21.mpr (lc_21 i hs hc hL nx)
        · exact s300_40_22.mpr (lc_22 i hs hc hL nx)
        · exact s300_40_23.mpr (lc_23 i hs hc hL nx)
        · exact s300_40_24.mpr (lc_24 i hs hc hL nx)
        · exact s300_40_25.mpr (lc_25 i hs hc hL nx)
        · exact s300_40_26.mpr (lc_26 i hs hc hL nx)
        · exact s300_40_27.mpr (lc_27 i hs hc hL nx)
        · exact s300_40_28.mpr (lc_28 i hs hc hL nx)
        · exact s300_40_29.mpr (lc_29 i hs hc hL nx)
        · exact s300_40_30.mpr (lc_30 i hs hc hL nx)
        · exact s300_40_31.mpr (lc_31 i hs hc hL nx)
        · exact s300_40_32.mpr (lc_32 i hs hc hL nx)
        · exact s300_40_33.mpr (lc_33 i hs hc hL nx)
        · exact s300_40_34.mpr (lc_34 i hs hc hL nx)
        · exact s300_40_35.mpr (lc_35 i hs hc hL nx)
        · exact s300_40_36.mpr (lc_36 i hs hc hL nx)
        · exact s300_40_37.mpr (lc_37 i hs hc hL nx)
        · exact s300_40_38.mpr (lc_38 i hs hc hL nx)
        · exact s300_40_39.mpr (lc_39 i hs hc hL nx)
        · exact s300_40_40.mpr (lc_40 i hs hc hL nx)
        · exact s300_40_41.mpr (lc_41 i hs hc hL nx)
        · exact s300_40_42.mpr (lc_42 i hs hc hL nx)
        · exact s300_40_43.mpr (lc_43 i hs hc hL nx)
    · have hl : nI L - 6 < nI (6 * j) := by
        rw [lti, sbi, nI_toInt (by omega), nI_toInt (by omega)]
        have : (6 : Int32).toInt = 6 := rfl
        omega
      simp only [s300_23, s300_25, s300_26, s300_27, s300_29, s300_30, s300_1709, s300_1710, true_or, or_true, or_false, false_or, or_self, Int32.reduceLT, Int32.reduceLE, Nat.add_zero, Nat.zero_add, Nat.not_lt_zero, not_false_eq_true, not_true_eq_false, and_assoc, kl_q, kl_i, kl_r, kl_n, kl_0, kl_l, cs_0, cs_i, cs_r, cs_n, cs_l, aRf_s, aRf_n, gi_wl, gi_wr, gl_wi, gl_wl, gl_wr, gr_wi, gr_wl, gr_wr, sh_wi, sh_wl, sh_wr, gl_cp, gr_cp, sh_cp, gl_rw, gr_rw, sh_rw, gi_rl, gr_rl, sh_rl, Option.toList_some, Option.toList_none, List.nil_append, List.cons_append, List.append_nil, Option.some.injEq, Prod.mk.injEq, and_true, true_and, and_self, if_true, if_false, reduceCtorEq, Nat.reduceLeDiff, Nat.reduceLT, Nat.reduceAdd, Nat.reduceEqDiff, false_and, and_false, exists_const, exists_eq_left, exists_eq_left', exists_and_left, and_assoc, hs, hl, nb1]
      omega
end LAW3
