-- deps: 34.setout
/-! ===== states; the class's course as it is now ===== -/
/-- a state S of the class is the one at place o of row a of the reference -/
def StR (h : aM) (M F S a o : Nat) : Prop := (∀ k, k < M → gi h (S + 1) k = gi h a (o + k) ∧ gi h (S + 2) k = gi h a (o + 6 + k) ∧ gi h (S + 3) k = gi h a (o + 12 + k) ∧ gi h (S + 4) k = gi h a (o + 18 + k)) ∧ (∀ f, f < F → gi h (S + 5) f = gi h a (o + 24 + f)) ∧
  gi h S 5 = gi h a (o + 29) ∧ gi h S 6 = gi h a (o + 30) ∧ gi h S 7 = gi h a (o + 31) ∧ gi h S 8 = gi h a (o + 32)
/-- its numbers are in their bounds; D is its DAY -/
def StB (h : aM) (M a o D : Nat) : Prop := (∀ k, k < M → sm (gi h a (o + k)) ∧ sm (gi h a (o + 6 + k)) ∧ (0 ≤ (gi h a (o + 12 + k)).toInt ∧ (gi h a (o + 12 + k)).toInt ≤ 9) ∧ 0 ≤ (gi h a (o + 18 + k)).toInt ∧ (gi h a (o + 18 + k)).toInt ≤ 9999) ∧
  (0 < M → ∃ p, 1 ≤ p ∧ p ≤ 5 ∧ gi h a (o + 29) = nI p) ∧ sm (gi h a (o + 30)) ∧ gi h a (o + 32) = nI D ∧ D ≤ 999 ∧ gi h a (o + 33) = nI (min 60 D)
def stG (g : aM) : Nat → Int32 := fun k => gi g 416 k
def voG (g : aM) : Nat → Int32 := fun k => gi g 416 (6 + k)
def dpG (g : aM) : Nat → Int32 := fun f => gi g 416 (24 + f)
def mudG (g : aM) : Int32 := gi g 416 30
/-- what questions need of the memory -/
def Ctx (g : aM) (M F L W N D P : Nat) : Prop := OK g ∧ ITold g M F L W ∧ IFirst g M F ∧ ILaw g N ∧ StR g M F 79 416 0 ∧ StB g M 416 0 D ∧ 0 < M ∧ 1 ≤ P ∧ P ≤ 5 ∧ gi g 416 29 = nI P
theorem Ctx.pb {g : aM} {M F L W N D P : Nat} (c : Ctx g M F L W N D P) : PB M (stG g) (voG g) P (mudG g) := by
  obtain ⟨c1, c2, c3, c4, c5, c6, c7, c8, c9, c10⟩ := c
  refine ⟨fun k hk => ?_, c8, c9, c6.2.2.1⟩
  have := c6.1 k hk
  rw [Nat.zero_add] at this
  exact ⟨this.1, this.2.1⟩
theorem Ctx.np {g : aM} {M F L W N D P : Nat} (c : Ctx g M F L W N D P) {h : aM} (s : Same g h) : NowP h M F (stG g) (voG g) (dpG g) P (mudG g) := by
  obtain ⟨c1, c2, c3, c4, c5, c6, c7, c8, c9, c10⟩ := c
  refine ⟨fun k _ => ⟨s.2 _ _ rfl, s.2 _ _ rfl⟩, fun f _ => s.2 _ _ rfl, ?_, s.2 _ _ rfl⟩
  rw [s.2 _ _ rfl, c10]
def LdI (h : aM) (M L P : Nat) (f : Nat → Nat → Int32) : Prop := ∀ m, m < M → ∀ j, j * P ≤ L → gi h (351 + m) (j * P) = f m (j * P)
def Crs (g h : aM) (M F L : Nat) (st vo dp : Nat → Int32) (P : Nat) (mud : Int32) : Prop := CoP g h M F L st vo dp P mud ∧ LdI h M L P (hdG g F st vo dp P mud)
section C
variable {d : Nat} {g h : aM} {Q : Option Value → aM → Prop} {M F L W N D P : Nat}
theorem c_setCourse (c : Ctx g M F L W N D P) (sa : Same g h) (hq : ∀ h', CoP g h' M F L (stG g) (voG g) (dpG g) P (mudG g) → Q none h') : AW (d + 3) 126 0 [some (.ref 32)] [] h Q := by
  obtain ⟨c1, c2, c3, c4, c5, c6, c7, c8, c9, c10⟩ := c
  have ok := sa.1
  simp (disch := omega) only [s126_0, s126_1, s126_4, s126_5, s126_8, s126_9, s126_12, s126_13, s126_16, s126_19, true_or, or_true, or_false, false_or, or_self, Int32.reduceLT, Int32.reduceLE, Nat.add_zero, Nat.zero_add, Nat.not_lt_zero, not_false_eq_true, not_true_eq_false, and_assoc, kl_q, kl_i, kl_r, kl_n, kl_0, kl_l, cs_0, cs_i, cs_r, cs_n, cs_l, aRf_s, aRf_n, gi_wl, gi_wr, gl_wi, gl_wl, gl_wr, gr_wi, gr_wl, gr_wr, sh_wi, sh_wl, sh_wr, gl_cp, gr_cp, sh_cp, gl_rw, gr_rw, sh_rw, gi_rl, gr_rl, sh_rl, Option.toList_some, Option.toList_none, List.nil_append, List.cons_append, List.append_nil, Option.some.injEq, Prod.mk.injEq, and_true, true_and, and_self, if_true, if_false, reduceCtorEq, Nat.reduceLeDiff, Nat.reduceLT, Nat.reduceAdd, Nat.reduceEqDiff, false_and, and_false, exists_const, exists_eq_left, exists_eq_left', exists_and_left, and_assoc, nltL, nltR, nleL, nleR, neqL, neqR, naL, naR, nmL, nmR, nI_ltI, nI_leI, nI_eq, nI_add, nI_mul, nI_clamp, n0l, n0r, nm1, nm1', nm1l, nm1r, nm1g, nsL, nI_m1, Nat.add_sub_cancel, vpn, vpL, nclL, le32, leLL, leLN, leNL, leNN, inA, nb0, nb1, gi_wi_n, gi_wi_e, gi_rw_n, gi_rw_e, aWi_rw, z32 ok, r32_11 ok, r32_3 ok, r32_5 ok]
  refine c_law c4 sa ?_
  simp (disch := omega) only [s126_0, s126_1, s126_4, s126_5, s126_8, s126_9, s126_12, s126_13, s126_16, s126_19, true_or, or_true, or_false, false_or, or_self, Int32.reduceLT, Int32.reduceLE, Nat.add_zero, Nat.zero_add, Nat.not_lt_zero, not_false_eq_true, not_true_eq_false, and_assoc, kl_q, kl_i, kl_r, kl_n, kl_0, kl_l, cs_0, cs_i, cs_r, cs_n, cs_l, aRf_s, aRf_n, gi_wl, gi_wr, gl_wi, gl_wl, gl_wr, gr_wi, gr_wl, gr_wr, sh_wi, sh_wl, sh_wr, gl_cp, gr_cp, sh_cp, gl_rw, gr_rw, sh_rw, gi_rl, gr_rl, sh_rl, Option.toList_some, Option.toList_none, List.nil_append, List.cons_append, List.append_nil, Option.some.injEq, Prod.mk.injEq, and_true, true_and, and_self, if_true, if_false, reduceCtorEq, Nat.reduceLeDiff, Nat.reduceLT, Nat.reduceAdd, Nat.reduceEqDiff, false_and, and_false, exists_const, exists_eq_left, exists_eq_left', exists_and_left, and_assoc, nltL, nltR, nleL, nleR, neqL, neqR, naL, naR, nmL, nmR, nI_ltI, nI_leI, nI_eq, nI_add, nI_mul, nI_clamp, n0l, n0r, nm1, nm1', nm1l, nm1r, nm1g, nsL, nI_m1, Nat.add_sub_cancel, vpn, vpL, nclL, le32, leLL, leLN, leNL, leNN, inA, nb0, nb1, gi_wi_n, gi_wi_e, gi_rw_n, gi_rw_e, aWi_rw, z342 ok]
  refine c_setOut79 (st := stG g) (vo := voG g) (dp := dpG g) (P := P) (mud := mudG g) c2 sa (fun k hk => ?_) (fun f hf => ?_) ?_ ?_ (fun h' co => ?_)
  · have := c5.1 k hk
    simp only [Nat.zero_add] at this
    exact ⟨this.1, this.2.1⟩
  · have := c5.2.1 f hf
    rw [Nat.zero_add] at this
    exact this
  · rw [← c10]
    exact c5.2.2.1
  · exact c5.2.2.2.1
  · simp only [s126_0, s126_1, s126_4, s126_5, s126_8, s126_9, s126_12, s126_13, s126_16, s126_19, true_or, or_true, or_false, false_or, or_self, Int32.reduceLT, Int32.reduceLE, Nat.add_zero, Nat.zero_add, Nat.not_lt_zero, not_false_eq_true, not_true_eq_false, and_assoc, kl_q, kl_i, kl_r, kl_n, kl_0, kl_l, cs_0, cs_i, cs_r, cs_n, cs_l, aRf_s, aRf_n, gi_wl, gi_wr, gl_wi, gl_wl, gl_wr, gr_wi, gr_wl, gr_wr, sh_wi, sh_wl, sh_wr, gl_cp, gr_cp, sh_cp, gl_rw, gr_rw, sh_rw, gi_rl, gr_rl, sh_rl, Option.toList_some, Option.toList_none, List.nil_append, List.cons_append, List.append_nil, Option.some.injEq, Prod.mk.injEq, and_true, true_and, and_self, if_true, if_false, reduceCtorEq, Nat.reduceLeDiff, Nat.reduceLT, Nat.reduceAdd, Nat.reduceEqDiff, false_and, and_false, exists_const, exists_eq_left, exists_eq_left', exists_and_left, and_assoc]
    exact hq h' co
theorem c_hearNow (c : Ctx g M F L W N D P) (sa : Same g h) (hq : ∀ h', Crs g h' M F L (stG g) (voG g) (dpG g) P (mudG g) → Q none h') : AW (d + 5) 128 0 [some (.ref 32)] [] h Q := by
  have ok := sa.1
  simp (disch := omega) only [s128_0, s128_1, s128_4, s128_5, s128_8, s128_9, s128_10, s128_13, s128_16, s128_19, true_or, or_true, or_false, false_or, or_self, Int32.reduceLT, Int32.reduceLE, Nat.add_zero, Nat.zero_add, Nat.not_lt_zero, not_false_eq_true, not_true_eq_false, and_assoc, kl_q, kl_i, kl_r, kl_n, kl_0, kl_l, cs_0, cs_i, cs_r, cs_n, cs_l, aRf_s, aRf_n, gi_wl, gi_wr, gl_wi, gl_wl, gl_wr, gr_wi, gr_wl, gr_wr, sh_wi, sh_wl, sh_wr, gl_cp, gr_cp, sh_cp, gl_rw, gr_rw, sh_rw, gi_rl, gr_rl, sh_rl, Option.toList_some, Option.toList_none, List.nil_append, List.cons_append, List.append_nil, Option.some.injEq, Prod.mk.injEq, and_true, true_and, and_self, if_true, if_false, reduceCtorEq, Nat.reduceLeDiff, Nat.reduceLT, Nat.reduceAdd, Nat.reduceEqDiff, false_and, and_false, exists_const, exists_eq_left, exists_eq_left', exists_and_left, and_assoc, nltL, nltR, nleL, nleR, neqL, neqR, naL, naR, nmL, nmR, nI_ltI, nI_leI, nI_eq, nI_add, nI_mul, nI_clamp, n0l, n0r, nm1, nm1', nm1l, nm1r, nm1g, nsL, nI_m1, Nat.add_sub_cancel, vpn, vpL, nclL, le32, leLL, leLN, leNL, leNN, inA, nb0, nb1, gi_wi_n, gi_wi_e, gi_rw_n, gi_rw_e, aWi_rw, z32 ok]
  refine c_setCourse c sa (fun h2 co => ?_)
  have ok := co.1.1
  have a1 : gi h2 58 3 = nI M := by rw [co.1.2 _ _ rfl, c.2.1.2.2.2.2.2.1]
  simp (disch := omega) only [s128_0, s128_1, s128_4, s128_5, s128_8, s128_9, s128_10, s128_13, s128_16, s128_19, true_or, or_true, or_false, false_or, or_self, Int32.reduceLT, Int32.reduceLE, Nat.add_zero, Nat.zero_add, Nat.not_lt_zero, not_false_eq_true, not_true_eq_false, and_assoc, kl_q, kl_i, kl_r, kl_n, kl_0, kl_l, cs_0, cs_i, cs_r, cs_n, cs_l, aRf_s, aRf_n, gi_wl, gi_wr, gl_wi, gl_wl, gl_wr, gr_wi, gr_wl, gr_wr, sh_wi, sh_wl, sh_wr, gl_cp, gr_cp, sh_cp, gl_rw, gr_rw, sh_rw, gi_rl, gr_rl, sh_rl, Option.toList_some, Option.toList_none, List.nil_append, List.cons_append, List.append_nil, Option.some.injEq, Prod.mk.injEq, and_true, true_and, and_self, if_true, if_false, reduceCtorEq, Nat.reduceLeDiff, Nat.reduceLT, Nat.reduceAdd, Nat.reduceEqDiff, false_and, and_false, exists_const, exists_eq_left, exists_eq_left', exists_and_left, and_assoc, nltL, nltR, nleL, nleR, neqL, neqR, naL, naR, nmL, nmR, nI_ltI, nI_leI, nI_eq, nI_add, nI_mul, nI_clamp, n0l, n0r, nm1, nm1', nm1l, nm1r, nm1g, nsL, nI_m1, Nat.add_sub_cancel, vpn, vpL, nclL, le32, leLL, leLN, leNL, leNN, inA, nb0, nb1, gi_wi_n, gi_wi_e, gi_rw_n, gi_rw_e, aWi_rw, z32 ok, z58 ok, z342 ok, r32_3 ok, r32_11 ok, a1]
  refine c_hear (m0 := 0) c.2.1 c.2.2.2.1 c.pb co (Nat.zero_le _) (Nat.le_refl _) (fun h3 f1 f2 f3 => ?_)
  simp only [s128_0, s128_1, s128_4, s128_5, s128_8, s128_9, s128_10, s128_13, s128_16, s128_19, true_or, or_true, or_false, false_or, or_self, Int32.reduceLT, Int32.reduceLE, Nat.add_zero, Nat.zero_add, Nat.not_lt_zero, not_false_eq_true, not_true_eq_false, and_assoc, kl_q, kl_i, kl_r, kl_n, kl_0, kl_l, cs_0, cs_i, cs_r, cs_n, cs_l, aRf_s, aRf_n, gi_wl, gi_wr, gl_wi, gl_wl, gl_wr, gr_wi, gr_wl, gr_wr, sh_wi, sh_wl, sh_wr, gl_cp, gr_cp, sh_cp, gl_rw, gr_rw, sh_rw, gi_rl, gr_rl, sh_rl, Option.toList_some, Option.toList_none, List.nil_append, List.cons_append, List.append_nil, Option.some.injEq, Prod.mk.injEq, and_true, true_and, and_self, if_true, if_false, reduceCtorEq, Nat.reduceLeDiff, Nat.reduceLT, Nat.reduceAdd, Nat.reduceEqDiff, false_and, and_false, exists_const, exists_eq_left, exists_eq_left', exists_and_left, and_assoc]
  exact hq h3 ⟨co.fr f1 hearX_scr ⟨rfl, rfl, rfl, rfl⟩ (fun k => ⟨rfl, rfl, rfl, rfl⟩), fun m hm j hj => f2 m (Nat.zero_le _) hm j hj⟩
theorem Crs.go {st vo dp : Nat → Int32} {mud : Int32} {h' : aM} (it : ITold g M F L W) (cr : Crs g h M F L st vo dp P mud) (f : Fr goX h h') : Crs g h' M F L st vo dp P mud := by
  refine ⟨cr.1.fr f goX_scr ⟨rfl, rfl, rfl, rfl⟩ (fun k => ⟨rfl, rfl, rfl, rfl⟩), fun m hm j hj => ?_⟩
  have := it.1
  rw [f.2.2.2 _ _ (goX351 (by omega))]
  exact cr.2 m hm j hj
/-- a ride goes along the course -/
theorem c_goW {st vo dp : Nat → Int32} {mud : Int32} {R : Nat} (it : ITold g M F L W) (P1 : 1 ≤ P) (P5 : P ≤ 5) (hR : R ≤ 20) (cr : Crs g h M F L st vo dp P mud) (hq : ∀ h', Crs g h' M F L st vo dp P mud → GoP h' (rdA (hdG g F st vo dp P mud) M L P mud R) → Q none h') : AW (d + 2) 16 0 [some (.ref 342), some (.int (nI R)), none, none, none, none] [] h Q :=
  c_go it.1 it.2.2.1 P1 P5 hR cr.1 cr.2 (fun h' f1 g1 => hq h' (cr.go it f1) g1)
theorem c_rideNow (c : Ctx g M F L W N D P) (sa : Same g h) (hq : ∀ h', Crs g h' M F L (stG g) (voG g) (dpG g) P (mudG g) → GoP h' (rdA (hdG g F (stG g) (voG g) (dpG g) P (mudG g)) M L P (mudG g) W) → Q none h') : AW (d + 6) 129 0 [some (.ref 32)] [] h Q := by
  have ok := sa.1
  simp (disch := omega) only [s129_0, s129_1, s129_4, s129_5, s129_8, s129_9, s129_12, s129_15, true_or, or_true, or_false, false_or, or_self, Int32.reduceLT, Int32.reduceLE, Nat.add_zero, Nat.zero_add, Nat.not_lt_zero, not_false_eq_true, not_true_eq_false, and_assoc, kl_q, kl_i, kl_r, kl_n, kl_0, kl_l, cs_0, cs_i, cs_r, cs_n, cs_l, aRf_s, aRf_n, gi_wl, gi_wr, gl_wi, gl_wl, gl_wr, gr_wi, gr_wl, gr_wr, sh_wi, sh_wl, sh_wr, gl_cp, gr_cp, sh_cp, gl_rw, gr_rw, sh_rw, gi_rl, gr_rl, sh_rl, Option.toList_some, Option.toList_none, List.nil_append, List.cons_append, List.append_nil, Option.some.injEq, Prod.mk.injEq, and_true, true_and, and_self, if_true, if_false, reduceCtorEq, Nat.reduceLeDiff, Nat.reduceLT, Nat.reduceAdd, Nat.reduceEqDiff, false_and, and_false, exists_const, exists_eq_left, exists_eq_left', exists_and_left, and_assoc, nltL, nltR, nleL, nleR, neqL, neqR, naL, naR, nmL, nmR, nI_ltI, nI_leI, nI_eq, nI_add, nI_mul, nI_clamp, n0l, n0r, nm1, nm1', nm1l, nm1r, nm1g, nsL, nI_m1, Nat.add_sub_cancel, vpn, vpL, nclL, le32, leLL, leLN, leNL, leNN, inA, nb0, nb1, gi_wi_n, gi_wi_e, gi_rw_n, gi_rw_e, aWi_rw, z32 ok]
  refine c_hearNow c sa (fun h2 cr => ?_)
  have ok := cr.1.1.1
  have a1 : gi h2 59 2 = nI W := by rw [cr.1.1.2 _ _ rfl, c.2.1.2.2.2.2.2.2.2.2.2.2.2.1]
  simp (disch := omega) only [s129_0, s129_1, s129_4, s129_5, s129_8, s129_9, s129_12, s129_15, s106_0, s106_1, s106_4, s106_7, s106_8, s106_9, true_or, or_true, or_false, false_or, or_self, Int32.reduceLT, Int32.reduceLE, Nat.add_zero, Nat.zero_add, Nat.not_lt_zero, not_false_eq_true, not_true_eq_false, and_assoc, kl_q, kl_i, kl_r, kl_n, kl_0, kl_l, cs_0, cs_i, cs_r, cs_n, cs_l, aRf_s, aRf_n, gi_wl, gi_wr, gl_wi, gl_wl, gl_wr, gr_wi, gr_wl, gr_wr, sh_wi, sh_wl, sh_wr, gl_cp, gr_cp, sh_cp, gl_rw, gr_rw, sh_rw, gi_rl, gr_rl, sh_rl, Option.toList_some, Option.toList_none, List.nil_append, List.cons_append, List.append_nil, Option.some.injEq, Prod.mk.injEq, and_true, true_and, and_self, if_true, if_false, reduceCtorEq, Nat.reduceLeDiff, Nat.reduceLT, Nat.reduceAdd, Nat.reduceEqDiff, false_and, and_false, exists_const, exists_eq_left, exists_eq_left', exists_and_left, and_assoc, nltL, nltR, nleL, nleR, neqL, neqR, naL, naR, nmL, nmR, nI_ltI, nI_leI, nI_eq, nI_add, nI_mul, nI_clamp, n0l, n0r, nm1, nm1', nm1l, nm1r, nm1g, nsL, nI_m1, Nat.add_sub_cancel, vpn, vpL, nclL, le32, leLL, leLN, leNL, leNN, inA, nb0, nb1, gi_wi_n, gi_wi_e, gi_rw_n, gi_rw_e, aWi_rw, z32 ok, z58 ok, z59 ok, z342 ok, r32_3 ok, r32_11 ok, r58_0 ok, a1]
  obtain ⟨c1, c2, c3, c4, c5, c6, c7, c8, c9, c10⟩ := id c
  refine c_goW c2 c8 c9 c2.2.2.2.1 cr (fun h3 cr3 g3 => ?_)
  simp only [s129_0, s129_1, s129_4, s129_5, s129_8, s129_9, s129_12, s129_15, true_or, or_true, or_false, false_or, or_self, Int32.reduceLT, Int32.reduceLE, Nat.add_zero, Nat.zero_add, Nat.not_lt_zero, not_false_eq_true, not_true_eq_false, and_assoc, kl_q, kl_i, kl_r, kl_n, kl_0, kl_l, cs_0, cs_i, cs_r, cs_n, cs_l, aRf_s, aRf_n, gi_wl, gi_wr, gl_wi, gl_wl, gl_wr, gr_wi, gr_wl, gr_wr, sh_wi, sh_wl, sh_wr, gl_cp, gr_cp, sh_cp, gl_rw, gr_rw, sh_rw, gi_rl, gr_rl, sh_rl, Option.toList_some, Option.toList_none, List.nil_append, List.cons_append, List.append_nil, Option.some.injEq, Prod.mk.injEq, and_true, true_and, and_self, if_true, if_false, reduceCtorEq, Nat.reduceLeDiff, Nat.reduceLT, Nat.reduceAdd, Nat.reduceEqDiff, false_and, and_false, exists_const, exists_eq_left, exists_eq_left', exists_and_left, and_assoc]
  exact hq h3 cr3 g3
/-- one number of a row is another -/
def up (f : Nat → Int32) (m : Nat) (x : Int32) : Nat → Int32 := fun k => if k = m then x else f k
theorem c_place {st vo dp : Nat → Int32} {mud : Int32} {m : Nat} {x : Int32} (it : ITold g M F L W) (il : ILaw g N) (pb : PB M st vo P mud) (cr : Crs g h M F L st vo dp P mud) (hm : m < M) (hx : sm x) (hq : ∀ h', Crs g h' M F L (up st m x) vo dp P mud → Q none h') : AW (d + 5) 10 0 [some (.ref 342), some (.int (nI m)), some (.int x)] [] h Q := by
  have ok := cr.1.1.1
  have hM := it.1
  have m6 : m < 6 := by omega
  have co2 : CoP g (aWi h 346 m x) M F L (up st m x) vo dp P mud := by
    obtain ⟨c1, c2, c3, c4, c5, c6, c7, c8⟩ := cr.1
    refine ⟨c1.wi rfl, c2, c3, c4, c5, c6, fun k hk => ?_, c8⟩
    obtain ⟨e1, e2, e3⟩ := c7 k hk
    refine ⟨?_, e2, e3⟩
    unfold up
    by_cases hkm : k = m
    · subst hkm
      rw [gi_wi_e, if_pos rfl]
    · rw [gi_wi_n (by omega), if_neg hkm, e1]
  have pb2 : PB M (up st m x) vo P mud := by
    refine ⟨fun k hk => ⟨?_, (pb.1 k hk).2⟩, pb.2⟩
    unfold up
    split
    · exact hx
    · exact (pb.1 k hk).1
  simp (disch := omega) only [s10_0, s10_1, s10_4, s10_5, s10_6, s10_7, s10_8, s10_9, s10_10, s10_11, s10_12, s10_15, true_or, or_true, or_false, false_or, or_self, Int32.reduceLT, Int32.reduceLE, Nat.add_zero, Nat.zero_add, Nat.not_lt_zero, not_false_eq_true, not_true_eq_false, and_assoc, kl_q, kl_i, kl_r, kl_n, kl_0, kl_l, cs_0, cs_i, cs_r, cs_n, cs_l, aRf_s, aRf_n, gi_wl, gi_wr, gl_wi, gl_wl, gl_wr, gr_wi, gr_wl, gr_wr, sh_wi, sh_wl, sh_wr, gl_cp, gr_cp, sh_cp, gl_rw, gr_rw, sh_rw, gi_rl, gr_rl, sh_rl, Option.toList_some, Option.toList_none, List.nil_append, List.cons_append, List.append_nil, Option.some.injEq, Prod.mk.injEq, and_true, true_and, and_self, if_true, if_false, reduceCtorEq, Nat.reduceLeDiff, Nat.reduceLT, Nat.reduceAdd, Nat.reduceEqDiff, false_and, and_false, exists_const, exists_eq_left, exists_eq_left', exists_and_left, and_assoc, nltL, nltR, nleL, nleR, neqL, neqR, naL, naR, nmL, nmR, nI_ltI, nI_leI, nI_eq, nI_add, nI_mul, nI_clamp, n0l, n0r, nm1, nm1', nm1l, nm1r, nm1g, nsL, nI_m1, Nat.add_sub_cancel, vpn, vpL, nclL, le32, leLL, leLN, leNL, leNN, inA, nb0, nb1, gi_wi_n, gi_wi_e, gi_rw_n, gi_rw_e, aWi_rw, z342 ok, z346 ok, r342_5 ok, m6]
  refine c_hear (m0 := m) (m1 := m + 1) it il pb2 co2 (by omega) (by omega) (fun h3 f1 f2 f3 => ?_)
  simp only [s10_0, s10_1, s10_4, s10_5, s10_6, s10_7, s10_8, s10_9, s10_10, s10_11, s10_12, s10_15, true_or, or_true, or_false, false_or, or_self, Int32.reduceLT, Int32.reduceLE, Nat.add_zero, Nat.zero_add, Nat.not_lt_zero, not_false_eq_true, not_true_eq_false, and_assoc, kl_q, kl_i, kl_r, kl_n, kl_0, kl_l, cs_0, cs_i, cs_r, cs_n, cs_l, aRf_s, aRf_n, gi_wl, gi_wr, gl_wi, gl_wl, gl_wr, gr_wi, gr_wl, gr_wr, sh_wi, sh_wl, sh_wr, gl_cp, gr_cp, sh_cp, gl_rw, gr_rw, sh_rw, gi_rl, gr_rl, sh_rl, Option.toList_some, Option.toList_none, List.nil_append, List.cons_append, List.append_nil, Option.some.injEq, Prod.mk.injEq, and_true, true_and, and_self, if_true, if_false, reduceCtorEq, Nat.reduceLeDiff, Nat.reduceLT, Nat.reduceAdd, Nat.reduceEqDiff, false_and, and_false, exists_const, exists_eq_left, exists_eq_left', exists_and_left, and_assoc]
  refine hq h3 ⟨co2.fr f1 hearX_scr ⟨rfl, rfl, rfl, rfl⟩ (fun k => ⟨rfl, rfl, rfl, rfl⟩), fun m' hm' j hj => ?_⟩
  by_cases hmm : m' = m
  · subst hmm
    exact f2 m' (Nat.le_refl _) (by omega) j hj
  · rw [f3 m' (by omega) (by omega), gi_wi_n (by omega), cr.2 m' hm' j hj]
    unfold hdG up
    rw [if_neg hmm]
theorem c_speak {st vo dp : Nat → Int32} {mud : Int32} {m : Nat} {x : Int32} (it : ITold g M F L W) (il : ILaw g N) (pb : PB M st vo P mud) (cr : Crs g h M F L st vo dp P mud) (hm : m < M) (hx : sm x) (hq : ∀ h', Crs g h' M F L st (up vo m x) dp P mud → Q none h') : AW (d + 5) 11 0 [some (.ref 342), some (.int (nI m)), some (.int x)] [] h Q := by
  have ok := cr.1.1.1
  have hM := it.1
  have m6 : m < 6 := by omega
  have co2 : CoP g (aWi h 347 m x) M F L st (up vo m x) dp P mud := by
    obtain ⟨c1, c2, c3, c4, c5, c6, c7, c8⟩ := cr.1
    refine ⟨c1.wi rfl, c2, c3, c4, c5, c6, fun k hk => ?_, c8⟩
    obtain ⟨e1, e2, e3⟩ := c7 k hk
    refine ⟨e1, ?_, e3⟩
    unfold up
    by_cases hkm : k = m
    · subst hkm
      rw [gi_wi_e, if_pos rfl]
    · rw [gi_wi_n (by omega), if_neg hkm, e2]
  have pb2 : PB M st (up vo m x) P mud := by
    refine ⟨fun k hk => ⟨(pb.1 k hk).1, ?_⟩, pb.2⟩
    unfold up
    split
    · exact hx
    · exact (pb.1 k hk).2
  simp (disch := omega) only [s11_0, s11_1, s11_4, s11_5, s11_6, s11_7, s11_8, s11_9, s11_10, s11_11, s11_12, s11_15, true_or, or_true, or_false, false_or, or_self, Int32.reduceLT, Int32.reduceLE, Nat.add_zero, Nat.zero_add, Nat.not_lt_zero, not_false_eq_true, not_true_eq_false, and_assoc, kl_q, kl_i, kl_r, kl_n, kl_0, kl_l, cs_0, cs_i, cs_r, cs_n, cs_l, aRf_s, aRf_n, gi_wl, gi_wr, gl_wi, gl_wl, gl_wr, gr_wi, gr_wl, gr_wr, sh_wi, sh_wl, sh_wr, gl_cp, gr_cp, sh_cp, gl_rw, gr_rw, sh_rw, gi_rl, gr_rl, sh_rl, Option.toList_some, Option.toList_none, List.nil_append, List.cons_append, List.append_nil, Option.some.injEq, Prod.mk.injEq, and_true, true_and, and_self, if_true, if_false, reduceCtorEq, Nat.reduceLeDiff, Nat.reduceLT, Nat.reduceAdd, Nat.reduceEqDiff, false_and, and_false, exists_const, exists_eq_left, exists_eq_left', exists_and_left, and_assoc, nltL, nltR, nleL, nleR, neqL, neqR, naL, naR, nmL, nmR, nI_ltI, nI_leI, nI_eq, nI_add, nI_mul, nI_clamp, n0l, n0r, nm1, nm1', nm1l, nm1r, nm1g, nsL, nI_m1, Nat.add_sub_cancel, vpn, vpL, nclL, le32, leLL, leLN, leNL, leNN, inA, nb0, nb1, gi_wi_n, gi_wi_e, gi_rw_n, gi_rw_e, aWi_rw, z342 ok, z347 ok, r342_6 ok, m6]
  refine c_hear (m0 := m) (m1 := m + 1) it il pb2 co2 (by omega) (by omega) (fun h3 f1 f2 f3 => ?_)
  simp only [s11_0, s11_1, s11_4, s11_5, s11_6, s11_7, s11_8, s11_9, s11_10, s11_11, s11_12, s11_15, true_or, or_true, or_false, false_or, or_self, Int32.reduceLT, Int32.reduceLE, Nat.add_zero, Nat.zero_add, Nat.not_lt_zero, not_false_eq_true, not_true_eq_false, and_assoc, kl_q, kl_i, kl_r, kl_n, kl_0, kl_l, cs_0, cs_i, cs_r, cs_n, cs_l, aRf_s, aRf_n, gi_wl, gi_wr, gl_wi, gl_wl, gl_wr, gr_wi, gr_wl, gr_wr, sh_wi, sh_wl, sh_wr, gl_cp, gr_cp, sh_cp, gl_rw, gr_rw, sh_rw, gi_rl, gr_rl, sh_rl, Option.toList_some, Option.toList_none, List.nil_append, List.cons_append, List.append_nil, Option.some.injEq, Prod.mk.injEq, and_true, true_and, and_self, if_true, if_false, reduceCtorEq, Nat.reduceLeDiff, Nat.reduceLT, Nat.reduceAdd, Nat.reduceEqDiff, false_and, and_false, exists_const, exists_eq_left, exists_eq_left', exists_and_left, and_assoc]
  refine hq h3 ⟨co2.fr f1 hearX_scr ⟨rfl, rfl, rfl, rfl⟩ (fun k => ⟨rfl, rfl, rfl, rfl⟩), fun m' hm' j hj => ?_⟩
  by_cases hmm : m' = m
  · subst hmm
    exact f2 m' (Nat.le_refl _) (by omega) j hj
  · rw [f3 m' (by omega) (by omega), gi_wi_n (by omega), cr.2 m' hm' j hj]
    unfold hdG up
    rw [if_neg hmm]
theorem c_pace {st vo dp : Nat → Int32} {mud : Int32} {P' : Nat} (it : ITold g M F L W) (il : ILaw g N) (pb : PB M st vo P mud) (co : CoP g h M F L st vo dp P mud) (h1 : 1 ≤ P') (h5 : P' ≤ 5) (hq : ∀ h', Crs g h' M F L st vo dp P' mud → Q none h') : AW (d + 5) 12 0 [some (.ref 342), some (.int (nI P'))] [] h Q := by
  have ok := co.1.1
  have hM := it.1
  have co2 : CoP g (aWi h 342 13 (nI P')) M F L st vo dp P' mud := by
    obtain ⟨c1, c2, c3, c4, c5, c6, c7, c8⟩ := co
    exact ⟨c1.wi rfl, c2, c3, gi_wi_e, c5, c6, c7, c8⟩
  have c2 := co2.2.1
  simp (disch := omega) only [s12_0, s12_1, s12_2, s12_5, s12_6, s12_7, s12_8, s12_11, s12_14, true_or, or_true, or_false, false_or, or_self, Int32.reduceLT, Int32.reduceLE, Nat.add_zero, Nat.zero_add, Nat.not_lt_zero, not_false_eq_true, not_true_eq_false, and_assoc, kl_q, kl_i, kl_r, kl_n, kl_0, kl_l, cs_0, cs_i, cs_r, cs_n, cs_l, aRf_s, aRf_n, gi_wl, gi_wr, gl_wi, gl_wl, gl_wr, gr_wi, gr_wl, gr_wr, sh_wi, sh_wl, sh_wr, gl_cp, gr_cp, sh_cp, gl_rw, gr_rw, sh_rw, gi_rl, gr_rl, sh_rl, Option.toList_some, Option.toList_none, List.nil_append, List.cons_append, List.append_nil, Option.some.injEq, Prod.mk.injEq, and_true, true_and, and_self, if_true, if_false, reduceCtorEq, Nat.reduceLeDiff, Nat.reduceLT, Nat.reduceAdd, Nat.reduceEqDiff, false_and, and_false, exists_const, exists_eq_left, exists_eq_left', exists_and_left, and_assoc, nltL, nltR, nleL, nleR, neqL, neqR, naL, naR, nmL, nmR, nI_ltI, nI_leI, nI_eq, nI_add, nI_mul, nI_clamp, n0l, n0r, nm1, nm1', nm1l, nm1r, nm1g, nsL, nI_m1, Nat.add_sub_cancel, vpn, vpL, nclL, le32, leLL, leLN, leNL, leNN, inA, nb0, nb1, gi_wi_n, gi_wi_e, gi_rw_n, gi_rw_e, aWi_rw, z342 ok, co.2.1]
  refine c_hear (m0 := 0) it il ⟨pb.1, h1, h5, pb.2.2.2⟩ co2 (Nat.zero_le _) (Nat.le_refl _) (fun h3 f1 f2 f3 => ?_)
  simp only [s12_0, s12_1, s12_2, s12_5, s12_6, s12_7, s12_8, s12_11, s12_14, true_or, or_true, or_false, false_or, or_self, Int32.reduceLT, Int32.reduceLE, Nat.add_zero, Nat.zero_add, Nat.not_lt_zero, not_false_eq_true, not_true_eq_false, and_assoc, kl_q, kl_i, kl_r, kl_n, kl_0, kl_l, cs_0, cs_i, cs_r, cs_n, cs_l, aRf_s, aRf_n, gi_wl, gi_wr, gl_wi, gl_wl, gl_wr, gr_wi, gr_wl, gr_wr, sh_wi, sh_wl, sh_wr, gl_cp, gr_cp, sh_cp, gl_rw, gr_rw, sh_rw, gi_rl, gr_rl, sh_rl, Option.toList_some, Option.toList_none, List.nil_append, List.cons_append, List.append_nil, Option.some.injEq, Prod.mk.injEq, and_true, true_and, and_self, if_true, if_false, reduceCtorEq, Nat.reduceLeDiff, Nat.reduceLT, Nat.reduceAdd, Nat.reduceEqDiff, false_and, and_false, exists_const, exists_eq_left, exists_eq_left', exists_and_left, and_assoc]
  exact hq h3 ⟨co2.fr f1 hearX_scr ⟨rfl, rfl, rfl, rfl⟩ (fun k => ⟨rfl, rfl, rfl, rfl⟩), fun m hm j hj => f2 m (Nat.zero_le _) hm j hj⟩
theorem c_nb {ws : List Wd} (ok : OK h) (hM : M ≤ 6) (c2 : gi h 342 11 = nI M) (gp : GoP h ws) (hl : ws.length ≤ 31) (hq : Q (some (.int (nb ws M))) h) : AW d 18 0 [some (.ref 342), none, none] [] h Q := by
  simp (disch := omega) only [s18_0, s18_1, s18_2, s18_3, s18_5, s18_6, s18_9, s18_12, s18_13, s18_16, s18_17, s18_18, s18_21, s18_22, s18_23, s18_24, s18_25, s18_26, s18_27, s18_30, s18_33, s18_34, true_or, or_true, or_false, false_or, or_self, Int32.reduceLT, Int32.reduceLE, Nat.add_zero, Nat.zero_add, Nat.not_lt_zero, not_false_eq_true, not_true_eq_false, and_assoc, kl_q, kl_i, kl_r, kl_n, kl_0, kl_l, cs_0, cs_i, cs_r, cs_n, cs_l, aRf_s, aRf_n, gi_wl, gi_wr, gl_wi, gl_wl, gl_wr, gr_wi, gr_wl, gr_wr, sh_wi, sh_wl, sh_wr, gl_cp, gr_cp, sh_cp, gl_rw, gr_rw, sh_rw, gi_rl, gr_rl, sh_rl, Option.toList_some, Option.toList_none, List.nil_append, List.cons_append, List.append_nil, Option.some.injEq, Prod.mk.injEq, and_true, true_and, and_self, if_true, if_false, reduceCtorEq, Nat.reduceLeDiff, Nat.reduceLT, Nat.reduceAdd, Nat.reduceEqDiff, false_and, and_false, exists_const, exists_eq_left, exists_eq_left', exists_and_left, and_assoc, nltL, nltR, nleL, nleR, neqL, neqR, naL, naR, nmL, nmR, nI_ltI, nI_leI, nI_eq, nI_add, nI_mul, nI_clamp, n0l, n0r, nm1, nm1', nm1l, nm1r, nm1g, nsL, nI_m1, Nat.add_sub_cancel, vpn, vpL, nclL, le32, leLL, leLN, leNL, leNN, inA, nb0, nb1, gi_wi_n, gi_wi_e, gi_rw_n, gi_rw_e, aWi_rw]
  refine aLoop M (fun m lv h' => lv = [some (.ref 342), some (.int (nb ws m)), some (.int (nI m))] ∧ h' = h) ?_ ?_ 0 _ _ (Nat.zero_le _) ⟨rfl, rfl⟩
  · rintro m lv h' hm ⟨rfl, rfl⟩ hk
    have m6 : m < 6 := by omega
    have e1 : ¬ M ≤ m := by omega
    have e2 := gp.2.2.2 m m6
    have e3 := cnt_le ws m
    have hk' := hk _ _ ⟨rfl, rfl⟩
    rw [nb] at hk'
    rw [s18_4]
    simp (disch := omega) only [s18_0, s18_1, s18_2, s18_3, s18_5, s18_6, s18_9, s18_12, s18_13, s18_16, s18_17, s18_18, s18_21, s18_22, s18_23, s18_24, s18_25, s18_26, s18_27, s18_30, s18_33, s18_34, true_or, or_true, or_false, false_or, or_self, Int32.reduceLT, Int32.reduceLE, Nat.add_zero, Nat.zero_add, Nat.not_lt_zero, not_false_eq_true, not_true_eq_false, and_assoc, kl_q, kl_i, kl_r, kl_n, kl_0, kl_l, cs_0, cs_i, cs_r, cs_n, cs_l, aRf_s, aRf_n, gi_wl, gi_wr, gl_wi, gl_wl, gl_wr, gr_wi, gr_wl, gr_wr, sh_wi, sh_wl, sh_wr, gl_cp, gr_cp, sh_cp, gl_rw, gr_rw, sh_rw, gi_rl, gr_rl, sh_rl, Option.toList_some, Option.toList_none, List.nil_append, List.cons_append, List.append_nil, Option.some.injEq, Prod.mk.injEq, and_true, true_and, and_self, if_true, if_false, reduceCtorEq, Nat.reduceLeDiff, Nat.reduceLT, Nat.reduceAdd, Nat.reduceEqDiff, false_and, and_false, exists_const, exists_eq_left, exists_eq_left', exists_and_left, and_assoc, nltL, nltR, nleL, nleR, neqL, neqR, naL, naR, nmL, nmR, nI_ltI, nI_leI, nI_eq, nI_add, nI_mul, nI_clamp, n0l, n0r, nm1, nm1', nm1l, nm1r, nm1g, nsL, nI_m1, Nat.add_sub_cancel, vpn, vpL, nclL, le32, leLL, leLN, leNL, leNN, inA, nb0, nb1, gi_wi_n, gi_wi_e, gi_rw_n, gi_rw_e, aWi_rw, z342 ok, z343 ok, r342_0 ok, c2, e1, e2, m6]
    by_cases h0 : 0 < cnt ws m
    · rw [if_neg (by omega)]
      rw [if_pos h0] at hk'
      exact hk'
    · rw [if_pos (by omega)]
      rw [if_neg h0] at hk'
      exact hk'
  · rintro lv h' ⟨rfl, rfl⟩
    rw [s18_4]
    simp (disch := omega) only [s18_0, s18_1, s18_2, s18_3, s18_5, s18_6, s18_9, s18_12, s18_13, s18_16, s18_17, s18_18, s18_21, s18_22, s18_23, s18_24, s18_25, s18_26, s18_27, s18_30, s18_33, s18_34, true_or, or_true, or_false, false_or, or_self, Int32.reduceLT, Int32.reduceLE, Nat.add_zero, Nat.zero_add, Nat.not_lt_zero, not_false_eq_true, not_true_eq_false, and_assoc, kl_q, kl_i, kl_r, kl_n, kl_0, kl_l, cs_0, cs_i, cs_r, cs_n, cs_l, aRf_s, aRf_n, gi_wl, gi_wr, gl_wi, gl_wl, gl_wr, gr_wi, gr_wl, gr_wr, sh_wi, sh_wl, sh_wr, gl_cp, gr_cp, sh_cp, gl_rw, gr_rw, sh_rw, gi_rl, gr_rl, sh_rl, Option.toList_some, Option.toList_none, List.nil_append, List.cons_append, List.append_nil, Option.some.injEq, Prod.mk.injEq, and_true, true_and, and_self, if_true, if_false, reduceCtorEq, Nat.reduceLeDiff, Nat.reduceLT, Nat.reduceAdd, Nat.reduceEqDiff, false_and, and_false, exists_const, exists_eq_left, exists_eq_left', exists_and_left, and_assoc, nltL, nltR, nleL, nleR, neqL, neqR, naL, naR, nmL, nmR, nI_ltI, nI_leI, nI_eq, nI_add, nI_mul, nI_clamp, n0l, n0r, nm1, nm1', nm1l, nm1r, nm1g, nsL, nI_m1, Nat.add_sub_cancel, vpn, vpL, nclL, le32, leLL, leLN, leNL, leNN, inA, nb0, nb1, gi_wi_n, gi_wi_e, gi_rw_n, gi_rw_e, aWi_rw, z342 ok, c2, Nat.le_refl]
    exact hq
end C
