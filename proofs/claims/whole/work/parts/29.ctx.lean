-- deps: 28.worth2
/-! ===== the ride as told, and one's loudness ===== -/
def sm (x : Int32) : Prop := 0 ≤ x.toInt ∧ x.toInt ≤ 99
/-- the RIDE as told: men, fords, length, words -/
def ITold (h : aM) (M F L W : Nat) : Prop := M ≤ 6 ∧ F ≤ 5 ∧ L ≤ 30 ∧ W ≤ 20 ∧ (0 < M → 5 ≤ L ∧ 1 ≤ W) ∧
  gi h 58 3 = nI M ∧ gi h 399 25 = nI M ∧ gi h 58 4 = nI F ∧ gi h 399 26 = nI F ∧ gi h 59 0 = nI L ∧ gi h 413 0 = nI L ∧ gi h 59 2 = nI W ∧ gi h 413 2 = nI W ∧
  (∀ k, k < M → gi h (61 + k) 3 = gi h 414 (4 * k + 3) ∧ sm (gi h 414 (4 * k + 3))) ∧ (∀ k, k < F → gi h (68 + k) 0 = gi h 415 (2 * k) ∧ ∃ p, p ≤ 30 ∧ gi h 415 (2 * k) = nI p) ∧
  (∀ i j, i < F → j < F → gi h 415 (2 * i) = gi h 415 (2 * j) → i = j)
/-- as it was at first -/
def IFirst (h : aM) (M F : Nat) : Prop := (∀ k, k < M → gi h 74 k = gi h 414 (4 * k) ∧ gi h 75 k = gi h 414 (4 * k + 1) ∧ sm (gi h 414 (4 * k)) ∧ sm (gi h 414 (4 * k + 1))) ∧ (∀ k, k < F → gi h 78 k = gi h 415 (2 * k + 1)) ∧
  gi h 73 5 = gi h 413 1 ∧ gi h 73 6 = gi h 413 3 ∧ (0 < M → ∃ p, 1 ≤ p ∧ p ≤ 5 ∧ gi h 413 1 = nI p) ∧ sm (gi h 413 3)
/-- the LAWS, and which one holds -/
def ILaw (h : aM) (N : Nat) : Prop := N ≤ 4 ∧ gi h 32 16 = nI N ∧ gi h 399 13 = nI N ∧ (∀ i, i < N → LwR h i) ∧ gi h 32 17 = gi h 399 29 ∧ (gi h 399 29 = -1 ∨ ∃ i, i < N ∧ gi h 399 29 = nI i)
def wfN (lt : Nat → Int32) : Int32 := lt 0 - lt 1 - lt 2 / 2 + lt 4 / 3
def wfG (g : aM) (lt : Nat → Int32) : Int32 := if gi g 399 29 = -1 then wfN lt else wfL g (cN (gi g 399 29)) lt
def lawR (g : aM) : Option Nat := if gi g 399 29 = -1 then none else some (375 + 6 * cN (gi g 399 29))
def wetB (pl dp : Nat → Int32) : Nat → Nat → Bool
  | 0, _ => false
  | f + 1, s => wetB pl dp f s || (decide (pl f = nI s) && decide (0 < dp f))
def plG (g : aM) : Nat → Int32 := fun f => gi g 415 (2 * f)
def rkG (g : aM) : Nat → Int32 := fun m => gi g 414 (4 * m + 3)
/-- HEARD -/
def hdG (g : aM) (F : Nat) (st vo dp : Nat → Int32) (P : Nat) (mud : Int32) (m s : Nat) : Int32 :=
  if wetB (plG g) dp F s = true then 0 else imax 0 (imin 9 (wfG g (ltF (vo m) (iabs (st m - nI s)) (nI P) mud (rkG g m) (nI s))))
/-- numbers that are small enough -/
def PB (M : Nat) (st vo : Nat → Int32) (P : Nat) (mud : Int32) : Prop := (∀ k, k < M → sm (st k) ∧ sm (vo k)) ∧ 1 ≤ P ∧ P ≤ 5 ∧ sm mud
theorem sm_bd {x : Int32} (h : sm x) : bd x := by
  unfold sm at h
  unfold bd
  omega
theorem sm_nI {n : Nat} (h : n ≤ 99) : sm (nI n) := by
  unfold sm
  rw [nI_toInt (by omega)]
  omega
theorem sm_abs {x : Int32} {s : Nat} (h : sm x) (hs : s ≤ 30) : sm (iabs (x - nI s)) := by
  unfold sm at *
  unfold iabs
  have e := nI_toInt (show s < 2 ^ 31 by omega)
  have e0 : (0 : Int32).toInt = 0 := rfl
  split
  · rename_i h1
    simp only [lei, sbi, e, e0] at *
    omega
  · rename_i h1
    simp only [lei, sbi, ngi, e, e0] at *
    omega
theorem bd_lt {v d p m r n : Int32} (h0 : bd v) (h1 : bd d) (h2 : bd p) (h3 : bd m) (h4 : bd r) (h5 : bd n) : ∀ l, l < 6 → bd (ltF v d p m r n l) := by
  intro l _
  unfold ltF
  (repeat' split) <;> assumption
theorem bd_hd {g : aM} {M : Nat} {st vo : Nat → Int32} {P : Nat} {mud : Int32} {m s : Nat} (pb : PB M st vo P mud) (hm : m < M) (hs : s ≤ 30) (hr : sm (rkG g m)) : ∀ l, l < 6 → bd (ltF (vo m) (iabs (st m - nI s)) (nI P) mud (rkG g m) (nI s) l) :=
  bd_lt (sm_bd (pb.1 m hm).2) (sm_bd (sm_abs (pb.1 m hm).1 hs)) (sm_bd (sm_nI (by have := pb.2.2.1; omega))) (sm_bd pb.2.2.2) (sm_bd hr) (sm_bd (sm_nI (by omega)))
/-- the law that holds -/
theorem ILaw.cases {h : aM} {N : Nat} (l : ILaw h N) : (gi h 399 29 = -1 ∧ gi h 32 17 = -1) ∨ ∃ i, i < 4 ∧ i < N ∧ gi h 399 29 = nI i ∧ gi h 32 17 = nI i ∧ LwR h i ∧ ¬ gi h 399 29 = -1 ∧ cN (gi h 399 29) = i := by
  obtain ⟨h1, h2, h3, h4, h5, h6⟩ := l
  rcases h6 with h6 | ⟨i, hi, h6⟩
  · exact Or.inl ⟨h6, by rw [h5, h6]⟩
  · refine Or.inr ⟨i, by omega, hi, h6, by rw [h5, h6], h4 i hi, ?_, ?_⟩
    · rw [h6]
      exact (nm1 (by omega)).mp
    · rw [h6]
      exact nI_clamp (by omega)
/-- the rows that the laws stand in are the same -/
theorem LwR.same {g h : aM} {i : Nat} (l : LwR g i) (s : Same g h) (hi : i < 4) : LwR h i := by
  have t : ∀ k, Scr (375 + 6 * i) k = false ∧ Scr (376 + 6 * i) k = false ∧ Scr (377 + 6 * i) k = false ∧ Scr (378 + 6 * i) k = false := fun k =>
    four (P := fun i => Scr (375 + 6 * i) k = false ∧ Scr (376 + 6 * i) k = false ∧ Scr (377 + 6 * i) k = false ∧ Scr (378 + 6 * i) k = false) ⟨rfl, rfl, rfl, rfl⟩ ⟨rfl, rfl, rfl, rfl⟩ ⟨rfl, rfl, rfl, rfl⟩ ⟨rfl, rfl, rfl, rfl⟩ hi
  have e1 : ∀ k, gi h (375 + 6 * i) k = gi g (375 + 6 * i) k := fun k => s.2 _ _ (t k).1
  have e2 : ∀ k, gi h (376 + 6 * i) k = gi g (376 + 6 * i) k := fun k => s.2 _ _ (t k).2.1
  have e3 : ∀ k, gi h (377 + 6 * i) k = gi g (377 + 6 * i) k := fun k => s.2 _ _ (t k).2.2.1
  have e4 : ∀ k, gi h (378 + 6 * i) k = gi g (378 + 6 * i) k := fun k => s.2 _ _ (t k).2.2.2
  have e5 : ∀ k, gi h 401 k = gi g 401 k := fun k => s.2 _ _ rfl
  have e6 : ∀ k, gi h 402 k = gi g 402 k := fun k => s.2 _ _ rfl
  have e7 : ∀ k, gi h 404 k = gi g 404 k := fun k => s.2 _ _ rfl
  have e8 : ∀ k, gi h 405 k = gi g 405 k := fun k => s.2 _ _ rfl
  have e9 : ∀ k, gi h 406 k = gi g 406 k := fun k => s.2 _ _ rfl
  have e10 : ∀ k, gi h 407 k = gi g 407 k := fun k => s.2 _ _ rfl
  have e11 : ∀ p, segC h i p = segC g i p := fun p => funext fun q => e5 _
  unfold LwR at l ⊢
  simp only [e1, e2, e3, e4, e5, e6, e7, e8, e9, e10, e11]
  exact l
theorem wfL_same {g h : aM} {i : Nat} {lt : Nat → Int32} (e5 : ∀ k, gi h 401 k = gi g 401 k) (e6 : ∀ k, gi h 402 k = gi g 402 k) (e7 : ∀ k, gi h 404 k = gi g 404 k) (e8 : ∀ k, gi h 405 k = gi g 405 k) (e9 : ∀ k, gi h 406 k = gi g 406 k) (e10 : ∀ k, gi h 407 k = gi g 407 k) : wfL h i lt = wfL g i lt := by
  have e11 : ∀ p, segC h i p = segC g i p := fun p => funext fun q => e5 _
  have e12 : ∀ p, segV h i p = segV g i p := fun p => funext fun q => e6 _
  have : ∀ r q, lwV h i lt r q = lwV g i lt r q := by
    intro r
    induction r with
    | zero => exact fun q => rfl
    | succ r ih =>
      intro q
      simp only [lwV, e8, e9, e10, e11, e12, ih]
  unfold wfL
  rw [e7, this]
/-- the class's course is set out -/
def CoP (g h : aM) (M F L : Nat) (st vo dp : Nat → Int32) (P : Nat) (mud : Int32) : Prop := Same g h ∧ gi h 342 11 = nI M ∧ gi h 342 12 = nI L ∧ gi h 342 13 = nI P ∧ gi h 342 14 = mud ∧ gr h 342 15 = lawR g ∧
  (∀ k, k < M → gi h 346 k = st k ∧ gi h 347 k = vo k ∧ gi h 348 k = rkG g k) ∧ ∀ s, s ≤ 30 → gi h 349 s = if wetB (plG g) dp F s = true then 1 else 0
theorem CoP.sml {g h h' : aM} {M F L : Nat} {st vo dp : Nat → Int32} {P : Nat} {mud : Int32} (c : CoP g h M F L st vo dp P mud) (s : SmL h h') : CoP g h' M F L st vo dp P mud := by
  obtain ⟨c1, c2, c3, c4, c5, c6, c7, c8⟩ := c
  refine ⟨SmL.same c1 s, ?_, ?_, ?_, ?_, ?_, ?_, ?_⟩
  · rw [s.2.2.2 _ _ rfl, c2]
  · rw [s.2.2.2 _ _ rfl, c3]
  · rw [s.2.2.2 _ _ rfl, c4]
  · rw [s.2.2.2 _ _ rfl, c5]
  · rw [s.2.2.1, c6]
  · intro k hk
    rw [s.2.2.2 _ _ rfl, s.2.2.2 _ _ rfl, s.2.2.2 _ _ rfl]
    exact c7 k hk
  · intro k hk
    rw [s.2.2.2 _ _ rfl]
    exact c8 k hk
theorem c_loud {d : Nat} {g h : aM} {Q : Option Value → aM → Prop} {M F L W N : Nat} {st vo dp : Nat → Int32} {P : Nat} {mud : Int32} {m s : Nat} (it : ITold g M F L W) (il : ILaw g N) (pb : PB M st vo P mud) (co : CoP g h M F L st vo dp P mud) (hm : m < M) (hs : s ≤ 30)
    (hq : ∀ h', SmL h h' → Q (some (.int (hdG g F st vo dp P mud m s))) h') : AW (d + 3) 7 0 [some (.ref 342), some (.int (nI m)), some (.int (nI s)), none, none] [] h Q := by
  obtain ⟨c1, c2, c3, c4, c5, c6, c7, c8⟩ := co
  have ok := c1.1
  have hm6 : m < 6 := by have := it.1; omega
  obtain ⟨p1, p2, p3⟩ := c7 m hm
  have p4 := c8 s hs
  have hs31 : s < 31 := by omega
  by_cases hw : wetB (plG g) dp F s = true
  · rw [if_pos hw] at p4
    simp (disch := omega) only [s7_0, s7_1, s7_4, s7_5, s7_6, s7_9, s7_10, s7_11, s7_12, s7_15, s7_16, s7_17, s7_18, s7_19, s7_22, s7_23, s7_24, s7_27, s7_27n, s7_30, s7_31, s7_34, s7_35, s7_36, s7_37, s7_38, s7_39, s7_42, s7_43, s7_44, s7_45, s7_46, s7_49, s7_50, s7_51, s7_52, s7_53, s7_54, s7_57, s7_58, s7_61, s7_62, s7_65, s7_66, s7_67, s7_68, s7_69, s7_72, s7_73, s7_76, s7_77, s7_80, s7_81, s7_82, s7_83, s7_86, s7_88, s7_89, s7_91, s7_93, s7_96, s7_99, true_or, or_true, or_false, false_or, or_self, Int32.reduceLT, Int32.reduceLE, Nat.add_zero, Nat.zero_add, Nat.not_lt_zero, not_false_eq_true, not_true_eq_false, and_assoc, kl_q, kl_i, kl_r, kl_n, kl_0, kl_l, cs_0, cs_i, cs_r, cs_n, cs_l, aRf_s, aRf_n, gi_wl, gi_wr, gl_wi, gl_wl, gl_wr, gr_wi, gr_wl, gr_wr, sh_wi, sh_wl, sh_wr, gl_cp, gr_cp, sh_cp, gl_rw, gr_rw, sh_rw, gi_rl, gr_rl, sh_rl, Option.toList_some, Option.toList_none, List.nil_append, List.cons_append, List.append_nil, Option.some.injEq, Prod.mk.injEq, and_true, true_and, and_self, if_true, if_false, reduceCtorEq, Nat.reduceLeDiff, Nat.reduceLT, Nat.reduceAdd, Nat.reduceEqDiff, false_and, and_false, exists_const, exists_eq_left, exists_eq_left', exists_and_left, and_assoc, nltL, nltR, nleL, nleR, neqL, neqR, naL, naR, nmL, nmR, nI_ltI, nI_leI, nI_eq, nI_add, nI_mul, nI_clamp, n0l, n0r, nm1, nm1', nm1l, nm1r, nm1g, nsL, nI_m1, Nat.add_sub_cancel, vpn, vpL, nclL, le32, leLL, leLN, leNL, leNN, inA, nb0, nb1, gi_wi_n, gi_wi_e, gi_rw_n, gi_rw_e, aWi_rw, z342 ok, z349 ok, r342_8 ok, p4, hs31]
    have := hq h (SmL.refl ok)
    rwa [hdG, if_pos hw] at this
  · rw [if_neg hw] at p4
    rcases il.cases with ⟨l1, l2⟩ | ⟨i, hi, hin, l1, l2, l3, l4, l5⟩
    · rw [lawR, if_pos l1] at c6
      simp (disch := omega) only [s7_0, s7_1, s7_4, s7_5, s7_6, s7_9, s7_10, s7_11, s7_12, s7_15, s7_16, s7_17, s7_18, s7_19, s7_22, s7_23, s7_24, s7_27, s7_27n, s7_30, s7_31, s7_34, s7_35, s7_36, s7_37, s7_38, s7_39, s7_42, s7_43, s7_44, s7_45, s7_46, s7_49, s7_50, s7_51, s7_52, s7_53, s7_54, s7_57, s7_58, s7_61, s7_62, s7_65, s7_66, s7_67, s7_68, s7_69, s7_72, s7_73, s7_76, s7_77, s7_80, s7_81, s7_82, s7_83, s7_86, s7_88, s7_89, s7_91, s7_93, s7_96, s7_99, true_or, or_true, or_false, false_or, or_self, Int32.reduceLT, Int32.reduceLE, Nat.add_zero, Nat.zero_add, Nat.not_lt_zero, not_false_eq_true, not_true_eq_false, and_assoc, kl_q, kl_i, kl_r, kl_n, kl_0, kl_l, cs_0, cs_i, cs_r, cs_n, cs_l, aRf_s, aRf_n, gi_wl, gi_wr, gl_wi, gl_wl, gl_wr, gr_wi, gr_wl, gr_wr, sh_wi, sh_wl, sh_wr, gl_cp, gr_cp, sh_cp, gl_rw, gr_rw, sh_rw, gi_rl, gr_rl, sh_rl, Option.toList_some, Option.toList_none, List.nil_append, List.cons_append, List.append_nil, Option.some.injEq, Prod.mk.injEq, and_true, true_and, and_self, if_true, if_false, reduceCtorEq, Nat.reduceLeDiff, Nat.reduceLT, Nat.reduceAdd, Nat.reduceEqDiff, false_and, and_false, exists_const, exists_eq_left, exists_eq_left', exists_and_left, and_assoc, nltL, nltR, nleL, nleR, neqL, neqR, naL, naR, nmL, nmR, nI_ltI, nI_leI, nI_eq, nI_add, nI_mul, nI_clamp, n0l, n0r, nm1, nm1', nm1l, nm1r, nm1g, nsL, nI_m1, Nat.add_sub_cancel, vpn, vpL, nclL, le32, leLL, leLN, leNL, leNN, inA, nb0, nb1, gi_wi_n, gi_wi_e, gi_rw_n, gi_rw_e, aWi_rw, z342 ok, z346 ok, z347 ok, z348 ok, z349 ok, r342_5 ok, r342_6 ok, r342_7 ok, r342_8 ok, p1, p2, p3, p4, hs31, sp_abs, sp_max, sp_min, c6, c4, c5, hm6]
      have := hq h (SmL.refl ok)
      rwa [hdG, if_neg hw, wfG, if_pos l1] at this
    · rw [lawR, if_neg l4, l5] at c6
      have lw := l3.same c1 hi
      simp (disch := omega) only [s7_0, s7_1, s7_4, s7_5, s7_6, s7_9, s7_10, s7_11, s7_12, s7_15, s7_16, s7_17, s7_18, s7_19, s7_22, s7_23, s7_24, s7_27, s7_27n, s7_30, s7_31, s7_34, s7_35, s7_36, s7_37, s7_38, s7_39, s7_42, s7_43, s7_44, s7_45, s7_46, s7_49, s7_50, s7_51, s7_52, s7_53, s7_54, s7_57, s7_58, s7_61, s7_62, s7_65, s7_66, s7_67, s7_68, s7_69, s7_72, s7_73, s7_76, s7_77, s7_80, s7_81, s7_82, s7_83, s7_86, s7_88, s7_89, s7_91, s7_93, s7_96, s7_99, true_or, or_true, or_false, false_or, or_self, Int32.reduceLT, Int32.reduceLE, Nat.add_zero, Nat.zero_add, Nat.not_lt_zero, not_false_eq_true, not_true_eq_false, and_assoc, kl_q, kl_i, kl_r, kl_n, kl_0, kl_l, cs_0, cs_i, cs_r, cs_n, cs_l, aRf_s, aRf_n, gi_wl, gi_wr, gl_wi, gl_wl, gl_wr, gr_wi, gr_wl, gr_wr, sh_wi, sh_wl, sh_wr, gl_cp, gr_cp, sh_cp, gl_rw, gr_rw, sh_rw, gi_rl, gr_rl, sh_rl, Option.toList_some, Option.toList_none, List.nil_append, List.cons_append, List.append_nil, Option.some.injEq, Prod.mk.injEq, and_true, true_and, and_self, if_true, if_false, reduceCtorEq, Nat.reduceLeDiff, Nat.reduceLT, Nat.reduceAdd, Nat.reduceEqDiff, false_and, and_false, exists_const, exists_eq_left, exists_eq_left', exists_and_left, and_assoc, nltL, nltR, nleL, nleR, neqL, neqR, naL, naR, nmL, nmR, nI_ltI, nI_leI, nI_eq, nI_add, nI_mul, nI_clamp, n0l, n0r, nm1, nm1', nm1l, nm1r, nm1g, nsL, nI_m1, Nat.add_sub_cancel, vpn, vpL, nclL, le32, leLL, leLN, leNL, leNN, inA, nb0, nb1, gi_wi_n, gi_wi_e, gi_rw_n, gi_rw_e, aWi_rw, z342 ok, z346 ok, z347 ok, z348 ok, z349 ok, r342_5 ok, r342_6 ok, r342_7 ok, r342_8 ok, p1, p2, p3, p4, hs31, sp_abs, sp_max, sp_min, c6, c4, c5, hm6, q375 ok hi]
      have hr : sm (rkG g m) := (it.2.2.2.2.2.2.2.2.2.2.2.2.2.1 m hm).2
      refine cw_worth ok hi lw (bd_hd pb hm hs hr) (fun h' s' => ?_)
      simp (disch := omega) only [s7_0, s7_1, s7_4, s7_5, s7_6, s7_9, s7_10, s7_11, s7_12, s7_15, s7_16, s7_17, s7_18, s7_19, s7_22, s7_23, s7_24, s7_27, s7_27n, s7_30, s7_31, s7_34, s7_35, s7_36, s7_37, s7_38, s7_39, s7_42, s7_43, s7_44, s7_45, s7_46, s7_49, s7_50, s7_51, s7_52, s7_53, s7_54, s7_57, s7_58, s7_61, s7_62, s7_65, s7_66, s7_67, s7_68, s7_69, s7_72, s7_73, s7_76, s7_77, s7_80, s7_81, s7_82, s7_83, s7_86, s7_88, s7_89, s7_91, s7_93, s7_96, s7_99, true_or, or_true, or_false, false_or, or_self, Int32.reduceLT, Int32.reduceLE, Nat.add_zero, Nat.zero_add, Nat.not_lt_zero, not_false_eq_true, not_true_eq_false, and_assoc, kl_q, kl_i, kl_r, kl_n, kl_0, kl_l, cs_0, cs_i, cs_r, cs_n, cs_l, aRf_s, aRf_n, gi_wl, gi_wr, gl_wi, gl_wl, gl_wr, gr_wi, gr_wl, gr_wr, sh_wi, sh_wl, sh_wr, gl_cp, gr_cp, sh_cp, gl_rw, gr_rw, sh_rw, gi_rl, gr_rl, sh_rl, Option.toList_some, Option.toList_none, List.nil_append, List.cons_append, List.append_nil, Option.some.injEq, Prod.mk.injEq, and_true, true_and, and_self, if_true, if_false, reduceCtorEq, Nat.reduceLeDiff, Nat.reduceLT, Nat.reduceAdd, Nat.reduceEqDiff, false_and, and_false, exists_const, exists_eq_left, exists_eq_left', exists_and_left, and_assoc, nltL, nltR, nleL, nleR, neqL, neqR, naL, naR, nmL, nmR, nI_ltI, nI_leI, nI_eq, nI_add, nI_mul, nI_clamp, n0l, n0r, nm1, nm1', nm1l, nm1r, nm1g, nsL, nI_m1, Nat.add_sub_cancel, vpn, vpL, nclL, le32, leLL, leLN, leNL, leNN, inA, nb0, nb1, sp_max, sp_min]
      have := hq h' s'
      rw [hdG, if_neg hw, wfG, if_neg l4, l5] at this
      rw [wfL_same (g := g) (h := h) (fun k => c1.2 _ _ rfl) (fun k => c1.2 _ _ rfl) (fun k => c1.2 _ _ rfl) (fun k => c1.2 _ _ rfl) (fun k => c1.2 _ _ rfl) (fun k => c1.2 _ _ rfl)]
      exact this
