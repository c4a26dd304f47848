-- deps: 41.q6
/-! ===== questions, seventh part: stand, gait, least, put ===== -/
theorem up_up (f : Nat → Int32) (m : Nat) (x y : Int32) : up (up f m x) m y = up f m y := by
  funext k
  unfold up
  split <;> rfl
theorem up_self (f : Nat → Int32) (m : Nat) : up f m (f m) = f := by
  funext k
  unfold up
  split
  · next e => rw [e]
  · rfl
theorem up_c (f : Nat → Int32) {m n : Nat} (x y : Int32) (h : ¬ m = n) : up (up f m x) n y = up (up f n y) m x := by
  funext k
  unfold up
  by_cases h1 : k = n
  · subst h1
    rw [if_pos rfl, if_neg (fun q => h q.symm), if_pos rfl]
  · rw [if_neg h1, if_neg h1]
theorem up_e (f : Nat → Int32) (m : Nat) (x : Int32) : up f m x m = x := if_pos rfl
theorem up_n (f : Nat → Int32) {m k : Nat} (x : Int32) (h : ¬ k = m) : up f m x k = f k := if_neg h
theorem PB.st {M : Nat} {st vo : Nat → Int32} {P : Nat} {mud : Int32} (pb : PB M st vo P mud) {m : Nat} {x : Int32} (hx : sm x) : PB M (up st m x) vo P mud := by
  refine ⟨fun k hk => ⟨?_, (pb.1 k hk).2⟩, pb.2⟩
  unfold up
  split
  · exact hx
  · exact (pb.1 k hk).1
theorem PB.vo {M : Nat} {st vo : Nat → Int32} {P : Nat} {mud : Int32} (pb : PB M st vo P mud) {m : Nat} {x : Int32} (hx : sm x) : PB M st (up vo m x) P mud := by
  refine ⟨fun k hk => ⟨(pb.1 k hk).1, ?_⟩, pb.2⟩
  unfold up
  split
  · exact hx
  · exact (pb.1 k hk).2
/-- the reference's state now may be otherwise at places p -/
def Oth (g h : aM) (p : Nat → Bool) : Prop := SameN g h ∧ ∀ k, p k = false → gi h 416 k = gi g 416 k
theorem Oth.fr {g h h' : aM} {p : Nat → Bool} (o : Oth g h p) (f : Fr layX h h') : Oth g h' p := ⟨o.1.fr f (fun a k q => Or.inl (layX_scr a k q)), fun k q => by rw [f.2.2.2 _ _ rfl, o.2 k q]⟩
theorem Oth.wi {g h : aM} {p : Nat → Bool} {k : Nat} {x : Int32} (o : Oth g h p) (hp : p k = true) : Oth g (aWi h 416 k x) p := by
  refine ⟨⟨o.1.1, fun a j q r => ?_⟩, fun j q => ?_⟩
  · rw [gi_wi_n (fun z => r z.1), o.1.2 a j q r]
  · rw [gi_wi_n, o.2 j q]
    rintro ⟨-, rfl⟩
    rw [hp] at q
    cases q
theorem Oth.ws {g h : aM} {p : Nat → Bool} {a k : Nat} {x : Int32} (o : Oth g h p) (hs : Scr a k = true) (ha : ¬ a = 416) : Oth g (aWi h a k x) p := by
  refine ⟨⟨o.1.1, fun b j q r => ?_⟩, fun j q => ?_⟩
  · rw [gi_wi_n, o.1.2 b j q r]
    rintro ⟨rfl, rfl⟩
    rw [hs] at q
    cases q
  · rw [gi_wi_n (fun z => ha z.1.symm), o.2 j q]
theorem Same.oth {g h : aM} (s : Same g h) (p : Nat → Bool) : Oth g h p := ⟨s.n, fun k _ => s.2 _ _ rfl⟩
theorem Oth.back {g h : aM} {p : Nat} (o : Oth g h (fun k => k == p)) {x : Int32} (hx : x = gi g 416 p) : Same g (aWi h 416 p x) := by
  refine ⟨o.1.1, fun a j q => ?_⟩
  by_cases h4 : a = 416
  · subst h4
    by_cases hj : j = p
    · subst hj
      rw [gi_wi_e, hx]
    · rw [gi_wi_n (fun z => hj z.2), o.2 j (by simpa using hj)]
  · rw [gi_wi_n (fun z => h4 z.1), o.1.2 a j q h4]
section Q11
variable {d : Nat} {g h : aM} {Q : Option Value → aM → Prop} {M F L W N D P : Nat}
/-- the first of n from lo on that has most, and how many -/
def bsA (c : Nat → Nat) (lo : Nat) : Nat → Int32 × Int32
  | 0 => (nI lo, -1)
  | n + 1 => if (bsA c lo n).2 < nI (c (lo + n)) then (nI (lo + n), nI (c (lo + n))) else bsA c lo n
theorem bsA_ge (c : Nat → Nat) (lo : Nat) (hc : ∀ k, c k < 2 ^ 31) : ∀ n, -1 ≤ (bsA c lo n).2
  | 0 => by
    show (-1 : Int32) ≤ -1
    decide
  | n + 1 => by
    rw [bsA]
    split
    · have e : (-1 : Int32).toInt = -1 := rfl
      rw [lei, e, nI_toInt (hc _)]
      omega
    · exact bsA_ge c lo hc n
theorem imax_if {x y : Int32} : imax x y = if x < y then y else x := rfl
/-- the reference tries all at one place -/
theorem m_best {p lo hi m : Nat} {c : Nat → Nat} (s : Same g h) (hp : p < 34) (hl : lo ≤ hi) (hh : hi ≤ 30) (hc : ∀ k, c k ≤ 20) (hm : m < 6)
    (hst : ∀ v h' (Q' : Option Value → aM → Prop), lo ≤ v → v ≤ hi → Oth g h' (fun k => k == p) → gi h' 416 p = nI v → (∀ h'', Fr layX h' h'' → Q' (some (.int (nI (c v)))) h'') → AW (d + 9) 216 0 [some (.ref 399), some (.int (nI m))] [] h' Q')
    (hq : ∀ h', Same g h' → gi h' 399 40 = (bsA c lo (hi + 1 - lo)).2 → Q (some (.int (bsA c lo (hi + 1 - lo)).1)) h') :
    AW (d + 10) 245 0 [some (.ref 399), some (.int (nI p)), some (.int (nI lo)), some (.int (nI hi)), some (.int (nI m)), none, none, none, none] [] h Q := by
  have ok := s.1
  have p214 : p < 214 := by omega
  simp (disch := omega) only [s245_0, s245_1, s245_4, s245_5, s245_6, s245_8, s245_9, s245_11, s245_12, s245_13, s245_16, s245_17, s245_21, s245_22, s245_25, s245_26, s245_29, s245_30, s245_32, s245_33, s245_34, s245_36, s245_39, s245_41, s245_43, s245_44, s245_47, s245_50, s245_52, s245_55, s245_57, s245_59, s245_60, s245_61, s245_64, s245_66, s245_69, s245_72, s245_75, s245_78, s245_79, s245_82, s245_83, s245_85, s245_86, s245_88, true_or, or_true, or_false, false_or, or_self, Int32.reduceLT, Int32.reduceLE, Nat.add_zero, Nat.zero_add, Nat.not_lt_zero, not_false_eq_true, not_true_eq_false, and_assoc, kl_q, kl_i, kl_r, kl_n, kl_0, kl_l, cs_0, cs_i, cs_r, cs_n, cs_l, aRf_s, aRf_n, gi_wl, gi_wr, gl_wi, gl_wl, gl_wr, gr_wi, gr_wl, gr_wr, sh_wi, sh_wl, sh_wr, gl_cp, gr_cp, sh_cp, gl_rw, gr_rw, sh_rw, gi_rl, gr_rl, sh_rl, Option.toList_some, Option.toList_none, List.nil_append, List.cons_append, List.append_nil, Option.some.injEq, Prod.mk.injEq, and_true, true_and, and_self, if_true, if_false, reduceCtorEq, Nat.reduceLeDiff, Nat.reduceLT, Nat.reduceAdd, Nat.reduceEqDiff, false_and, and_false, exists_const, exists_eq_left, exists_eq_left', exists_and_left, and_assoc, nltL, nltR, nleL, nleR, neqL, neqR, naL, naR, nmL, nmR, nI_ltI, nI_leI, nI_eq, nI_add, nI_mul, nI_clamp, n0l, n0r, nm1, nm1', nm1l, nm1r, nm1g, nsL, nI_m1, Nat.add_sub_cancel, vpn, vpL, nclL, le32, leLL, leLN, leNL, leNN, inA, nb0, nb1, gi_wi_n, gi_wi_e, gi_rw_n, gi_rw_e, aWi_rw, ifl, ifl_, ifle, ifle_, ifq, ifq_, ifnq, ifnq_, ifnl, ifnl_, ifnle, ifnle_, z399 ok, z416 ok, r399_27 ok, p214]
  refine aLoop (hi + 1 - lo) (fun n lv h' => ∃ z, lv = [some (.ref 399), some (.int (nI p)), some (.int (nI lo)), some (.int (nI hi)), some (.int (nI m)), some (.int (gi h 416 p)), some (.int (if n = 0 then -1 else (bsA c lo n).1)), some (.int (nI (lo + n))), z] ∧ Oth g h' (fun k => k == p) ∧ gi h' 399 40 = (bsA c lo n).2) ?_ ?_ 0 _ _ (Nat.zero_le _) ⟨_, rfl, (s.oth _).ws rfl (by decide), gi_wi_e⟩
  · rintro n lv h' hn ⟨z, rfl, o1, o2⟩ hk
    have ok := o1.1.1
    have e1 : ¬ hi < lo + n := by omega
    have e2 := hc (lo + n)
    have e3 := bsA_ge c lo (fun k => by have := hc k; omega) n
    rw [s245_19]
    simp (disch := omega) only [s245_0, s245_1, s245_4, s245_5, s245_6, s245_8, s245_9, s245_11, s245_12, s245_13, s245_16, s245_17, s245_21, s245_22, s245_25, s245_26, s245_29, s245_30, s245_32, s245_33, s245_34, s245_36, s245_39, s245_41, s245_43, s245_44, s245_47, s245_50, s245_52, s245_55, s245_57, s245_59, s245_60, s245_61, s245_64, s245_66, s245_69, s245_72, s245_75, s245_78, s245_79, s245_82, s245_83, s245_85, s245_86, s245_88, true_or, or_true, or_false, false_or, or_self, Int32.reduceLT, Int32.reduceLE, Nat.add_zero, Nat.zero_add, Nat.not_lt_zero, not_false_eq_true, not_true_eq_false, and_assoc, kl_q, kl_i, kl_r, kl_n, kl_0, kl_l, cs_0, cs_i, cs_r, cs_n, cs_l, aRf_s, aRf_n, gi_wl, gi_wr, gl_wi, gl_wl, gl_wr, gr_wi, gr_wl, gr_wr, sh_wi, sh_wl, sh_wr, gl_cp, gr_cp, sh_cp, gl_rw, gr_rw, sh_rw, gi_rl, gr_rl, sh_rl, Option.toList_some, Option.toList_none, List.nil_append, List.cons_append, List.append_nil, Option.some.injEq, Prod.mk.injEq, and_true, true_and, and_self, if_true, if_false, reduceCtorEq, Nat.reduceLeDiff, Nat.reduceLT, Nat.reduceAdd, Nat.reduceEqDiff, false_and, and_false, exists_const, exists_eq_left, exists_eq_left', exists_and_left, and_assoc, nltL, nltR, nleL, nleR, neqL, neqR, naL, naR, nmL, nmR, nI_ltI, nI_leI, nI_eq, nI_add, nI_mul, nI_clamp, n0l, n0r, nm1, nm1', nm1l, nm1r, nm1g, nsL, nI_m1, Nat.add_sub_cancel, vpn, vpL, nclL, le32, leLL, leLN, leNL, leNN, inA, nb0, nb1, gi_wi_n, gi_wi_e, gi_rw_n, gi_rw_e, aWi_rw, ifl, ifl_, ifle, ifle_, ifq, ifq_, ifnq, ifnq_, ifnl, ifnl_, ifnle, ifnle_, z399 ok, z416 ok, r399_27 ok, p214, e1]
    refine hst (lo + n) _ _ (by omega) (by omega) (o1.wi (by simp)) gi_wi_e (fun h3 f3 => ?_)
    have o3 := (o1.wi (x := nI (lo + n)) (show (fun k => k == p) p = true by simp)).fr f3
    have ok := o3.1.1
    have e4 : gi h3 399 40 = (bsA c lo n).2 := by rw [f3.2.2.2 _ _ rfl, gi_wi_n (by omega), o2]
    simp (disch := omega) only [s245_0, s245_1, s245_4, s245_5, s245_6, s245_8, s245_9, s245_11, s245_12, s245_13, s245_16, s245_17, s245_21, s245_22, s245_25, s245_26, s245_29, s245_30, s245_32, s245_33, s245_34, s245_36, s245_39, s245_41, s245_43, s245_44, s245_47, s245_50, s245_52, s245_55, s245_57, s245_59, s245_60, s245_61, s245_64, s245_66, s245_69, s245_72, s245_75, s245_78, s245_79, s245_82, s245_83, s245_85, s245_86, s245_88, true_or, or_true, or_false, false_or, or_self, Int32.reduceLT, Int32.reduceLE, Nat.add_zero, Nat.zero_add, Nat.not_lt_zero, not_false_eq_true, not_true_eq_false, and_assoc, kl_q, kl_i, kl_r, kl_n, kl_0, kl_l, cs_0, cs_i, cs_r, cs_n, cs_l, aRf_s, aRf_n, gi_wl, gi_wr, gl_wi, gl_wl, gl_wr, gr_wi, gr_wl, gr_wr, sh_wi, sh_wl, sh_wr, gl_cp, gr_cp, sh_cp, gl_rw, gr_rw, sh_rw, gi_rl, gr_rl, sh_rl, Option.toList_some, Option.toList_none, List.nil_append, List.cons_append, List.append_nil, Option.some.injEq, Prod.mk.injEq, and_true, true_and, and_self, if_true, if_false, reduceCtorEq, Nat.reduceLeDiff, Nat.reduceLT, Nat.reduceAdd, Nat.reduceEqDiff, false_and, and_false, exists_const, exists_eq_left, exists_eq_left', exists_and_left, and_assoc, nltL, nltR, nleL, nleR, neqL, neqR, naL, naR, nmL, nmR, nI_ltI, nI_leI, nI_eq, nI_add, nI_mul, nI_clamp, n0l, n0r, nm1, nm1', nm1l, nm1r, nm1g, nsL, nI_m1, Nat.add_sub_cancel, vpn, vpL, nclL, le32, leLL, leLN, leNL, leNN, inA, nb0, nb1, gi_wi_n, gi_wi_e, gi_rw_n, gi_rw_e, aWi_rw, ifl, ifl_, ifle, ifle_, ifq, ifq_, ifnq, ifnq_, ifnl, ifnl_, ifnle, ifnle_, z399 ok, z416 ok, r399_27 ok, p214, sp_max, e4]
    have hk' := fun y => hk _ (aWi h3 399 40 (imax (bsA c lo n).2 (nI (c (lo + n))))) ⟨some (.int y), rfl, o3.ws rfl (by decide), by
      rw [gi_wi_e, imax_if, bsA]
      split <;> rfl⟩
    rw [if_neg (by omega), bsA] at hk'
    by_cases h5 : (bsA c lo n).2 < nI (c (lo + n))
    · rw [if_neg (Int32.not_le.mpr h5)]
      rw [if_pos h5] at hk'
      exact hk' _
    · have h6 := Int32.not_lt.mp h5
      rw [if_pos h6]
      rw [if_neg h5] at hk'
      by_cases h7 : n = 0
      · subst h7
        exfalso
        apply h5
        show (-1 : Int32) < _
        have e : (-1 : Int32).toInt = -1 := rfl
        rw [lti, e, nI_toInt (by omega)]
        omega
      · rw [if_neg h7]
        exact hk' _
  · rintro lv h' ⟨z, rfl, o1, o2⟩
    have ok := o1.1.1
    have e1 : hi < lo + (hi + 1 - lo) := by omega
    rw [s245_19]
    simp (disch := omega) only [s245_0, s245_1, s245_4, s245_5, s245_6, s245_8, s245_9, s245_11, s245_12, s245_13, s245_16, s245_17, s245_21, s245_22, s245_25, s245_26, s245_29, s245_30, s245_32, s245_33, s245_34, s245_36, s245_39, s245_41, s245_43, s245_44, s245_47, s245_50, s245_52, s245_55, s245_57, s245_59, s245_60, s245_61, s245_64, s245_66, s245_69, s245_72, s245_75, s245_78, s245_79, s245_82, s245_83, s245_85, s245_86, s245_88, true_or, or_true, or_false, false_or, or_self, Int32.reduceLT, Int32.reduceLE, Nat.add_zero, Nat.zero_add, Nat.not_lt_zero, not_false_eq_true, not_true_eq_false, and_assoc, kl_q, kl_i, kl_r, kl_n, kl_0, kl_l, cs_0, cs_i, cs_r, cs_n, cs_l, aRf_s, aRf_n, gi_wl, gi_wr, gl_wi, gl_wl, gl_wr, gr_wi, gr_wl, gr_wr, sh_wi, sh_wl, sh_wr, gl_cp, gr_cp, sh_cp, gl_rw, gr_rw, sh_rw, gi_rl, gr_rl, sh_rl, Option.toList_some, Option.toList_none, List.nil_append, List.cons_append, List.append_nil, Option.some.injEq, Prod.mk.injEq, and_true, true_and, and_self, if_true, if_false, reduceCtorEq, Nat.reduceLeDiff, Nat.reduceLT, Nat.reduceAdd, Nat.reduceEqDiff, false_and, and_false, exists_const, exists_eq_left, exists_eq_left', exists_and_left, and_assoc, nltL, nltR, nleL, nleR, neqL, neqR, naL, naR, nmL, nmR, nI_ltI, nI_leI, nI_eq, nI_add, nI_mul, nI_clamp, n0l, n0r, nm1, nm1', nm1l, nm1r, nm1g, nsL, nI_m1, Nat.add_sub_cancel, vpn, vpL, nclL, le32, leLL, leLN, leNL, leNN, inA, nb0, nb1, gi_wi_n, gi_wi_e, gi_rw_n, gi_rw_e, aWi_rw, ifl, ifl_, ifle, ifle_, ifq, ifq_, ifnq, ifnq_, ifnl, ifnl_, ifnle, ifnle_, z399 ok, z416 ok, r399_27 ok, p214, e1]
    refine hq _ (o1.back (s.2 _ _ rfl)) ?_
    rw [gi_wi_n (by omega), o2]
/-- one stands elsewhere -/
def stC (g : aM) (M F L W P m v : Nat) : Nat := cnt (rdA (hdG g F (up (stG g) m (nI v)) (voG g) (dpG g) P (mudG g)) M L P (mudG g) W) m
theorem stC_le {m v : Nat} (hW : W ≤ 20) : stC g M F L W P m v ≤ 20 := Nat.le_trans (cnt_le _ _) (Nat.le_trans (rd_le _) hW)
theorem np_st {m v : Nat} (c : Ctx g M F L W N D P) (hM : M ≤ 6) (o : Oth g h (fun k => k == m)) (hm : m < M) (hv : gi h 416 m = nI v) : NowP h M F (up (stG g) m (nI v)) (voG g) (dpG g) P (mudG g) := by
  refine ⟨fun k hk => ⟨?_, ?_⟩, fun f hf => ?_, ?_, ?_⟩
  · by_cases e : k = m
    · subst e
      rw [up_e, hv]
    · rw [up_n _ _ e, o.2 k (by simpa using e)]
      rfl
  · rw [o.2 _ (by simp; omega)]
    rfl
  · rw [o.2 _ (by simp; omega)]
    rfl
  · rw [o.2 _ (by simp; omega), c.2.2.2.2.2.2.2.2.2]
  · rw [o.2 _ (by simp; omega)]
    rfl
end Q11
section Q12
variable {g : aM} {M F L W N D : Nat}
theorem q_stand (cb : CtxB g M F L W N D) (a b : Int32) : Qry g 134 246 [some (.ref 32), some (.int a), some (.int b), none, none, none] [some (.ref 399), some (.int a), some (.int b), none] := by
  have it := cb.2.1
  have hM : M ≤ 6 := it.1
  have hM' : M ≤ 10 := by omega
  have hF : F ≤ 5 := it.2.1
  have hF' : F ≤ 10 := by omega
  have hL : L ≤ 30 := it.2.2.1
  have hW : W ≤ 20 := it.2.2.2.1
  cases ha : isM M a
  · refine ⟨-1, fun d h s => ?_⟩
    obtain ⟨r1, r2, r3, r4, r5, r6, r7, r8⟩ := rd58 it s
    have ok := s.1
    constructor
    · simp (disch := omega) only [s134_0, s134_1, s134_2, s134_5, s134_8, s134_9, s134_12, s134_13, s134_14, s134_17, s134_18, s134_19, s134_20, s134_23, s134_24, s134_25, s134_26, s134_28, s134_29, s134_33, s134_34, s134_37, s134_40, s134_41, s134_44, s134_45, s134_47, s134_50, s134_51, s134_54, s134_55, s134_58, s134_61, s134_62, s134_65, s134_68, s134_69, s134_70, s134_72, s134_75, s134_76, s134_79, s134_82, s134_83, s134_84, s134_86, s134_88, s134_89, s134_92, s134_95, s134_96, s134_99, s134_100, s134_103, s134_105, true_or, or_true, or_false, false_or, or_self, Int32.reduceLT, Int32.reduceLE, Nat.add_zero, Nat.zero_add, Nat.not_lt_zero, not_false_eq_true, not_true_eq_false, and_assoc, kl_q, kl_i, kl_r, kl_n, kl_0, kl_l, cs_0, cs_i, cs_r, cs_n, cs_l, aRf_s, aRf_n, gi_wl, gi_wr, gl_wi, gl_wl, gl_wr, gr_wi, gr_wl, gr_wr, sh_wi, sh_wl, sh_wr, gl_cp, gr_cp, sh_cp, gl_rw, gr_rw, sh_rw, gi_rl, gr_rl, sh_rl, Option.toList_some, Option.toList_none, List.nil_append, List.cons_append, List.append_nil, Option.some.injEq, Prod.mk.injEq, and_true, true_and, and_self, if_true, if_false, reduceCtorEq, Nat.reduceLeDiff, Nat.reduceLT, Nat.reduceAdd, Nat.reduceEqDiff, false_and, and_false, exists_const, exists_eq_left, exists_eq_left', exists_and_left, and_assoc, nltL, nltR, nleL, nleR, neqL, neqR, naL, naR, nmL, nmR, nI_ltI, nI_leI, nI_eq, nI_add, nI_mul, nI_clamp, n0l, n0r, nm1, nm1', nm1l, nm1r, nm1g, nsL, nI_m1, Nat.add_sub_cancel, vpn, vpL, nclL, le32, leLL, leLN, leNL, leNN, inA, nb0, nb1, gi_wi_n, gi_wi_e, gi_rw_n, gi_rw_e, aWi_rw, ifl, ifl_, ifle, ifle_, ifq, ifq_, ifnq, ifnq_, ifnl, ifnl_, ifnle, ifnle_, z32 ok, c_isMan ok r1, ha, bI_0]
      exact s
    · simp (disch := omega) only [s246_0, s246_1, s246_2, s246_5, s246_8, s246_9, s246_10, s246_11, s246_14, s246_17, s246_18, s246_19, s246_20, s246_21, s246_22, s246_23, s246_24, s246_25, s246_28, s246_29, s246_30, s246_31, s246_34, s246_35, s246_36, s246_39, s246_40, s246_43, s246_44, s246_47, true_or, or_true, or_false, false_or, or_self, Int32.reduceLT, Int32.reduceLE, Nat.add_zero, Nat.zero_add, Nat.not_lt_zero, not_false_eq_true, not_true_eq_false, and_assoc, kl_q, kl_i, kl_r, kl_n, kl_0, kl_l, cs_0, cs_i, cs_r, cs_n, cs_l, aRf_s, aRf_n, gi_wl, gi_wr, gl_wi, gl_wl, gl_wr, gr_wi, gr_wl, gr_wr, sh_wi, sh_wl, sh_wr, gl_cp, gr_cp, sh_cp, gl_rw, gr_rw, sh_rw, gi_rl, gr_rl, sh_rl, Option.toList_some, Option.toList_none, List.nil_append, List.cons_append, List.append_nil, Option.some.injEq, Prod.mk.injEq, and_true, true_and, and_self, if_true, if_false, reduceCtorEq, Nat.reduceLeDiff, Nat.reduceLT, Nat.reduceAdd, Nat.reduceEqDiff, false_and, and_false, exists_const, exists_eq_left, exists_eq_left', exists_and_left, and_assoc, nltL, nltR, nleL, nleR, neqL, neqR, naL, naR, nmL, nmR, nI_ltI, nI_leI, nI_eq, nI_add, nI_mul, nI_clamp, n0l, n0r, nm1, nm1', nm1l, nm1r, nm1g, nsL, nI_m1, Nat.add_sub_cancel, vpn, vpL, nclL, le32, leLL, leLN, leNL, leNN, inA, nb0, nb1, gi_wi_n, gi_wi_e, gi_rw_n, gi_rw_e, aWi_rw, ifl, ifl_, ifle, ifle_, ifq, ifq_, ifnq, ifnq_, ifnl, ifnl_, ifnle, ifnle_, z399 ok, m_isMan ok hM' r2, ha, bI_0]
      exact s
  obtain ⟨m, hm, rfl⟩ := isM_of ha (by omega)
  have m6 : m < 6 := by omega
  rcases inR3 (n := 1) (lit := 1) (by omega) rfl b with ⟨hi, hb⟩ | ⟨hi, j, hj, hj2, rfl⟩ | ⟨hi, w, hw, rfl⟩
  · refine ⟨-1, fun d h s => ?_⟩
    obtain ⟨r1, r2, r3, r4, r5, r6, r7, r8⟩ := rd58 it s
    have ok := s.1
    constructor
    · simp (disch := omega) only [s134_0, s134_1, s134_2, s134_5, s134_8, s134_9, s134_12, s134_13, s134_14, s134_17, s134_18, s134_19, s134_20, s134_23, s134_24, s134_25, s134_26, s134_28, s134_29, s134_33, s134_34, s134_37, s134_40, s134_41, s134_44, s134_45, s134_47, s134_50, s134_51, s134_54, s134_55, s134_58, s134_61, s134_62, s134_65, s134_68, s134_69, s134_70, s134_72, s134_75, s134_76, s134_79, s134_82, s134_83, s134_84, s134_86, s134_88, s134_89, s134_92, s134_95, s134_96, s134_99, s134_100, s134_103, s134_105, true_or, or_true, or_false, false_or, or_self, Int32.reduceLT, Int32.reduceLE, Nat.add_zero, Nat.zero_add, Nat.not_lt_zero, not_false_eq_true, not_true_eq_false, and_assoc, kl_q, kl_i, kl_r, kl_n, kl_0, kl_l, cs_0, cs_i, cs_r, cs_n, cs_l, aRf_s, aRf_n, gi_wl, gi_wr, gl_wi, gl_wl, gl_wr, gr_wi, gr_wl, gr_wr, sh_wi, sh_wl, sh_wr, gl_cp, gr_cp, sh_cp, gl_rw, gr_rw, sh_rw, gi_rl, gr_rl, sh_rl, Option.toList_some, Option.toList_none, List.nil_append, List.cons_append, List.append_nil, Option.some.injEq, Prod.mk.injEq, and_true, true_and, and_self, if_true, if_false, reduceCtorEq, Nat.reduceLeDiff, Nat.reduceLT, Nat.reduceAdd, Nat.reduceEqDiff, false_and, and_false, exists_const, exists_eq_left, exists_eq_left', exists_and_left, and_assoc, nltL, nltR, nleL, nleR, neqL, neqR, naL, naR, nmL, nmR, nI_ltI, nI_leI, nI_eq, nI_add, nI_mul, nI_clamp, n0l, n0r, nm1, nm1', nm1l, nm1r, nm1g, nsL, nI_m1, Nat.add_sub_cancel, vpn, vpL, nclL, le32, leLL, leLN, leNL, leNN, inA, nb0, nb1, gi_wi_n, gi_wi_e, gi_rw_n, gi_rw_e, aWi_rw, ifl, ifl_, ifle, ifle_, ifq, ifq_, ifnq, ifnq_, ifnl, ifnl_, ifnle, ifnle_, z32 ok, c_isMan ok r1, ha, hb, bI_0]
      exact s
    · simp (disch := omega) only [s246_0, s246_1, s246_2, s246_5, s246_8, s246_9, s246_10, s246_11, s246_14, s246_17, s246_18, s246_19, s246_20, s246_21, s246_22, s246_23, s246_24, s246_25, s246_28, s246_29, s246_30, s246_31, s246_34, s246_35, s246_36, s246_39, s246_40, s246_43, s246_44, s246_47, true_or, or_true, or_false, false_or, or_self, Int32.reduceLT, Int32.reduceLE, Nat.add_zero, Nat.zero_add, Nat.not_lt_zero, not_false_eq_true, not_true_eq_false, and_assoc, kl_q, kl_i, kl_r, kl_n, kl_0, kl_l, cs_0, cs_i, cs_r, cs_n, cs_l, aRf_s, aRf_n, gi_wl, gi_wr, gl_wi, gl_wl, gl_wr, gr_wi, gr_wl, gr_wr, sh_wi, sh_wl, sh_wr, gl_cp, gr_cp, sh_cp, gl_rw, gr_rw, sh_rw, gi_rl, gr_rl, sh_rl, Option.toList_some, Option.toList_none, List.nil_append, List.cons_append, List.append_nil, Option.some.injEq, Prod.mk.injEq, and_true, true_and, and_self, if_true, if_false, reduceCtorEq, Nat.reduceLeDiff, Nat.reduceLT, Nat.reduceAdd, Nat.reduceEqDiff, false_and, and_false, exists_const, exists_eq_left, exists_eq_left', exists_and_left, and_assoc, nltL, nltR, nleL, nleR, neqL, neqR, naL, naR, nmL, nmR, nI_ltI, nI_leI, nI_eq, nI_add, nI_mul, nI_clamp, n0l, n0r, nm1, nm1', nm1l, nm1r, nm1g, nsL, nI_m1, Nat.add_sub_cancel, vpn, vpL, nclL, le32, leLL, leLN, leNL, leNN, inA, nb0, nb1, gi_wi_n, gi_wi_e, gi_rw_n, gi_rw_e, aWi_rw, ifl, ifl_, ifle, ifle_, ifq, ifq_, ifnq, ifnq_, ifnl, ifnl_, ifnle, ifnle_, z399 ok, m_isMan ok hM' r2, ha, m_in, hi, bI_0]
      exact s
  · refine ⟨-1, fun d h s => ?_⟩
    obtain ⟨r1, r2, r3, r4, r5, r6, r7, r8⟩ := rd58 it s
    have ok := s.1
    constructor
    · simp (disch := omega) only [s134_0, s134_1, s134_2, s134_5, s134_8, s134_9, s134_12, s134_13, s134_14, s134_17, s134_18, s134_19, s134_20, s134_23, s134_24, s134_25, s134_26, s134_28, s134_29, s134_33, s134_34, s134_37, s134_40, s134_41, s134_44, s134_45, s134_47, s134_50, s134_51, s134_54, s134_55, s134_58, s134_61, s134_62, s134_65, s134_68, s134_69, s134_70, s134_72, s134_75, s134_76, s134_79, s134_82, s134_83, s134_84, s134_86, s134_88, s134_89, s134_92, s134_95, s134_96, s134_99, s134_100, s134_103, s134_105, true_or, or_true, or_false, false_or, or_self, Int32.reduceLT, Int32.reduceLE, Nat.add_zero, Nat.zero_add, Nat.not_lt_zero, not_false_eq_true, not_true_eq_false, and_assoc, kl_q, kl_i, kl_r, kl_n, kl_0, kl_l, cs_0, cs_i, cs_r, cs_n, cs_l, aRf_s, aRf_n, gi_wl, gi_wr, gl_wi, gl_wl, gl_wr, gr_wi, gr_wl, gr_wr, sh_wi, sh_wl, sh_wr, gl_cp, gr_cp, sh_cp, gl_rw, gr_rw, sh_rw, gi_rl, gr_rl, sh_rl, Option.toList_some, Option.toList_none, List.nil_append, List.cons_append, List.append_nil, Option.some.injEq, Prod.mk.injEq, and_true, true_and, and_self, if_true, if_false, reduceCtorEq, Nat.reduceLeDiff, Nat.reduceLT, Nat.reduceAdd, Nat.reduceEqDiff, false_and, and_false, exists_const, exists_eq_left, exists_eq_left', exists_and_left, and_assoc, nltL, nltR, nleL, nleR, neqL, neqR, naL, naR, nmL, nmR, nI_ltI, nI_leI, nI_eq, nI_add, nI_mul, nI_clamp, n0l, n0r, nm1, nm1', nm1l, nm1r, nm1g, nsL, nI_m1, Nat.add_sub_cancel, vpn, vpL, nclL, le32, leLL, leLN, leNL, leNN, inA, nb0, nb1, gi_wi_n, gi_wi_e, gi_rw_n, gi_rw_e, aWi_rw, ifl, ifl_, ifle, ifle_, ifq, ifq_, ifnq, ifnq_, ifnl, ifnl_, ifnle, ifnle_, z32 ok, c_isMan ok r1, ha, bI_0]
      exact s
    · simp (disch := omega) only [s246_0, s246_1, s246_2, s246_5, s246_8, s246_9, s246_10, s246_11, s246_14, s246_17, s246_18, s246_19, s246_20, s246_21, s246_22, s246_23, s246_24, s246_25, s246_28, s246_29, s246_30, s246_31, s246_34, s246_35, s246_36, s246_39, s246_40, s246_43, s246_44, s246_47, true_or, or_true, or_false, false_or, or_self, Int32.reduceLT, Int32.reduceLE, Nat.add_zero, Nat.zero_add, Nat.not_lt_zero, not_false_eq_true, not_true_eq_false, and_assoc, kl_q, kl_i, kl_r, kl_n, kl_0, kl_l, cs_0, cs_i, cs_r, cs_n, cs_l, aRf_s, aRf_n, gi_wl, gi_wr, gl_wi, gl_wl, gl_wr, gr_wi, gr_wl, gr_wr, sh_wi, sh_wl, sh_wr, gl_cp, gr_cp, sh_cp, gl_rw, gr_rw, sh_rw, gi_rl, gr_rl, sh_rl, Option.toList_some, Option.toList_none, List.nil_append, List.cons_append, List.append_nil, Option.some.injEq, Prod.mk.injEq, and_true, true_and, and_self, if_true, if_false, reduceCtorEq, Nat.reduceLeDiff, Nat.reduceLT, Nat.reduceAdd, Nat.reduceEqDiff, false_and, and_false, exists_const, exists_eq_left, exists_eq_left', exists_and_left, and_assoc, nltL, nltR, nleL, nleR, neqL, neqR, naL, naR, nmL, nmR, nI_ltI, nI_leI, nI_eq, nI_add, nI_mul, nI_clamp, n0l, n0r, nm1, nm1', nm1l, nm1r, nm1g, nsL, nI_m1, Nat.add_sub_cancel, vpn, vpL, nclL, le32, leLL, leLN, leNL, leNN, inA, nb0, nb1, gi_wi_n, gi_wi_e, gi_rw_n, gi_rw_e, aWi_rw, ifl, ifl_, ifle, ifle_, ifq, ifq_, ifnq, ifnq_, ifnl, ifnl_, ifnle, ifnle_, z399 ok, m_isMan ok hM' r2, ha, m_in, hi, bI_0]
      exact s
  obtain ⟨D', P, cx⟩ := cb.ctx (by omega)
  have hw01 : w = 0 ∨ w = 1 := by omega
  have P1 := cx.2.2.2.2.2.2.2.1
  have P5 := cx.2.2.2.2.2.2.2.2.1
  refine ⟨if w = 0 then (bsA (stC g M F L W P m) 0 (L + 1)).1 else (bsA (stC g M F L W P m) 0 (L + 1)).2, fun d h s => ?_⟩
  obtain ⟨r1, r2, r3, r4, r5, r6, r7, r8⟩ := rd58 it s
  obtain ⟨w1, w2, w3, w4, w5, w6⟩ := rdNow cb.2.2.2.2.1 s
  have ok := s.1
  constructor
  · have w0 : ¬ w < 0 := by omega
    have w2' : w ≤ 1 := by omega
    simp (disch := omega) only [s134_0, s134_1, s134_2, s134_5, s134_8, s134_9, s134_12, s134_13, s134_14, s134_17, s134_18, s134_19, s134_20, s134_23, s134_24, s134_25, s134_26, s134_28, s134_29, s134_33, s134_34, s134_37, s134_40, s134_41, s134_44, s134_45, s134_47, s134_50, s134_51, s134_54, s134_55, s134_58, s134_61, s134_62, s134_65, s134_68, s134_69, s134_70, s134_72, s134_75, s134_76, s134_79, s134_82, s134_83, s134_84, s134_86, s134_88, s134_89, s134_92, s134_95, s134_96, s134_99, s134_100, s134_103, s134_105, true_or, or_true, or_false, false_or, or_self, Int32.reduceLT, Int32.reduceLE, Nat.add_zero, Nat.zero_add, Nat.not_lt_zero, not_false_eq_true, not_true_eq_false, and_assoc, kl_q, kl_i, kl_r, kl_n, kl_0, kl_l, cs_0, cs_i, cs_r, cs_n, cs_l, aRf_s, aRf_n, gi_wl, gi_wr, gl_wi, gl_wl, gl_wr, gr_wi, gr_wl, gr_wr, sh_wi, sh_wl, sh_wr, gl_cp, gr_cp, sh_cp, gl_rw, gr_rw, sh_rw, gi_rl, gr_rl, sh_rl, Option.toList_some, Option.toList_none, List.nil_append, List.cons_append, List.append_nil, Option.some.injEq, Prod.mk.injEq, and_true, true_and, and_self, if_true, if_false, reduceCtorEq, Nat.reduceLeDiff, Nat.reduceLT, Nat.reduceAdd, Nat.reduceEqDiff, false_and, and_false, exists_const, exists_eq_left, exists_eq_left', exists_and_left, and_assoc, nltL, nltR, nleL, nleR, neqL, neqR, naL, naR, nmL, nmR, nI_ltI, nI_leI, nI_eq, nI_add, nI_mul, nI_clamp, n0l, n0r, nm1, nm1', nm1l, nm1r, nm1g, nsL, nI_m1, Nat.add_sub_cancel, vpn, vpL, nclL, le32, leLL, leLN, leNL, leNN, inA, nb0, nb1, gi_wi_n, gi_wi_e, gi_rw_n, gi_rw_e, aWi_rw, ifl, ifl_, ifle, ifle_, ifq, ifq_, ifnq, ifnq_, ifnl, ifnl_, ifnle, ifnle_, z32 ok, c_isMan ok r1, ha, bI_0, w0, w2']
    refine c_hearNow cx s (fun h2 cr => ?_)
    simp (disch := omega) only [s134_0, s134_1, s134_2, s134_5, s134_8, s134_9, s134_12, s134_13, s134_14, s134_17, s134_18, s134_19, s134_20, s134_23, s134_24, s134_25, s134_26, s134_28, s134_29, s134_33, s134_34, s134_37, s134_40, s134_41, s134_44, s134_45, s134_47, s134_50, s134_51, s134_54, s134_55, s134_58, s134_61, s134_62, s134_65, s134_68, s134_69, s134_70, s134_72, s134_75, s134_76, s134_79, s134_82, s134_83, s134_84, s134_86, s134_88, s134_89, s134_92, s134_95, s134_96, s134_99, s134_100, s134_103, s134_105, true_or, or_true, or_false, false_or, or_self, Int32.reduceLT, Int32.reduceLE, Nat.add_zero, Nat.zero_add, Nat.not_lt_zero, not_false_eq_true, not_true_eq_false, and_assoc, kl_q, kl_i, kl_r, kl_n, kl_0, kl_l, cs_0, cs_i, cs_r, cs_n, cs_l, aRf_s, aRf_n, gi_wl, gi_wr, gl_wi, gl_wl, gl_wr, gr_wi, gr_wl, gr_wr, sh_wi, sh_wl, sh_wr, gl_cp, gr_cp, sh_cp, gl_rw, gr_rw, sh_rw, gi_rl, gr_rl, sh_rl, Option.toList_some, Option.toList_none, List.nil_append, List.cons_append, List.append_nil, Option.some.injEq, Prod.mk.injEq, and_true, true_and, and_self, if_true, if_false, reduceCtorEq, Nat.reduceLeDiff, Nat.reduceLT, Nat.reduceAdd, Nat.reduceEqDiff, false_and, and_false, exists_const, exists_eq_left, exists_eq_left', exists_and_left, and_assoc, nltL, nltR, nleL, nleR, neqL, neqR, naL, naR, nmL, nmR, nI_ltI, nI_leI, nI_eq, nI_add, nI_mul, nI_clamp, n0l, n0r, nm1, nm1', nm1l, nm1r, nm1g, nsL, nI_m1, Nat.add_sub_cancel, vpn, vpL, nclL, le32, leLL, leLN, leNL, leNN, inA, nb0, nb1, gi_wi_n, gi_wi_e, gi_rw_n, gi_rw_e, aWi_rw, ifl, ifl_, ifle, ifle_, ifq, ifq_, ifnq, ifnq_, ifnl, ifnl_, ifnle, ifnle_]
    refine aLoop (L + 1) (fun n lv h' => lv = [some (.ref 32), some (.int (nI m)), some (.int (nI w)), some (.int (bsA (stC g M F L W P m) 0 n).1), some (.int (bsA (stC g M F L W P m) 0 n).2), some (.int (nI n))] ∧ ∃ x, sm x ∧ Crs g h' M F L (up (stG g) m x) (voG g) (dpG g) P (mudG g)) ?_ ?_ 0 _ _ (Nat.zero_le _) ⟨rfl, stG g m, (cx.pb.1 m hm).1, by rw [up_self]; exact cr⟩
    · rintro n lv h' hn ⟨rfl, x, hx, cr1⟩ hk
      have ok := cr1.1.1.1
      obtain ⟨r1, r2, r3, r4, r5, r6, r7, r8⟩ := rd58 it cr1.1.1
      have e1 : ¬ L < n := by omega
      rw [s134_31]
      simp (disch := omega) only [s134_0, s134_1, s134_2, s134_5, s134_8, s134_9, s134_12, s134_13, s134_14, s134_17, s134_18, s134_19, s134_20, s134_23, s134_24, s134_25, s134_26, s134_28, s134_29, s134_33, s134_34, s134_37, s134_40, s134_41, s134_44, s134_45, s134_47, s134_50, s134_51, s134_54, s134_55, s134_58, s134_61, s134_62, s134_65, s134_68, s134_69, s134_70, s134_72, s134_75, s134_76, s134_79, s134_82, s134_83, s134_84, s134_86, s134_88, s134_89, s134_92, s134_95, s134_96, s134_99, s134_100, s134_103, s134_105, true_or, or_true, or_false, false_or, or_self, Int32.reduceLT, Int32.reduceLE, Nat.add_zero, Nat.zero_add, Nat.not_lt_zero, not_false_eq_true, not_true_eq_false, and_assoc, kl_q, kl_i, kl_r, kl_n, kl_0, kl_l, cs_0, cs_i, cs_r, cs_n, cs_l, aRf_s, aRf_n, gi_wl, gi_wr, gl_wi, gl_wl, gl_wr, gr_wi, gr_wl, gr_wr, sh_wi, sh_wl, sh_wr, gl_cp, gr_cp, sh_cp, gl_rw, gr_rw, sh_rw, gi_rl, gr_rl, sh_rl, Option.toList_some, Option.toList_none, List.nil_append, List.cons_append, List.append_nil, Option.some.injEq, Prod.mk.injEq, and_true, true_and, and_self, if_true, if_false, reduceCtorEq, Nat.reduceLeDiff, Nat.reduceLT, Nat.reduceAdd, Nat.reduceEqDiff, false_and, and_false, exists_const, exists_eq_left, exists_eq_left', exists_and_left, and_assoc, nltL, nltR, nleL, nleR, neqL, neqR, naL, naR, nmL, nmR, nI_ltI, nI_leI, nI_eq, nI_add, nI_mul, nI_clamp, n0l, n0r, nm1, nm1', nm1l, nm1r, nm1g, nsL, nI_m1, Nat.add_sub_cancel, vpn, vpL, nclL, le32, leLL, leLN, leNL, leNN, inA, nb0, nb1, gi_wi_n, gi_wi_e, gi_rw_n, gi_rw_e, aWi_rw, ifl, ifl_, ifle, ifle_, ifq, ifq_, ifnq, ifnq_, ifnl, ifnl_, ifnle, ifnle_, z32 ok, z342 ok, r32_11 ok, c_len ok r5, e1]
      refine c_place (x := nI n) it cx.2.2.2.1 (cx.pb.st hx) cr1 hm (sm_nI (by omega)) (fun h3 cr3 => ?_)
      rw [up_up] at cr3
      have ok := cr3.1.1.1
      obtain ⟨r1, r2, r3, r4, r5, r6, r7, r8⟩ := rd58 it cr3.1.1
      simp (disch := omega) only [s134_0, s134_1, s134_2, s134_5, s134_8, s134_9, s134_12, s134_13, s134_14, s134_17, s134_18, s134_19, s134_20, s134_23, s134_24, s134_25, s134_26, s134_28, s134_29, s134_33, s134_34, s134_37, s134_40, s134_41, s134_44, s134_45, s134_47, s134_50, s134_51, s134_54, s134_55, s134_58, s134_61, s134_62, s134_65, s134_68, s134_69, s134_70, s134_72, s134_75, s134_76, s134_79, s134_82, s134_83, s134_84, s134_86, s134_88, s134_89, s134_92, s134_95, s134_96, s134_99, s134_100, s134_103, s134_105, true_or, or_true, or_false, false_or, or_self, Int32.reduceLT, Int32.reduceLE, Nat.add_zero, Nat.zero_add, Nat.not_lt_zero, not_false_eq_true, not_true_eq_false, and_assoc, kl_q, kl_i, kl_r, kl_n, kl_0, kl_l, cs_0, cs_i, cs_r, cs_n, cs_l, aRf_s, aRf_n, gi_wl, gi_wr, gl_wi, gl_wl, gl_wr, gr_wi, gr_wl, gr_wr, sh_wi, sh_wl, sh_wr, gl_cp, gr_cp, sh_cp, gl_rw, gr_rw, sh_rw, gi_rl, gr_rl, sh_rl, Option.toList_some, Option.toList_none, List.nil_append, List.cons_append, List.append_nil, Option.some.injEq, Prod.mk.injEq, and_true, true_and, and_self, if_true, if_false, reduceCtorEq, Nat.reduceLeDiff, Nat.reduceLT, Nat.reduceAdd, Nat.reduceEqDiff, false_and, and_false, exists_const, exists_eq_left, exists_eq_left', exists_and_left, and_assoc, nltL, nltR, nleL, nleR, neqL, neqR, naL, naR, nmL, nmR, nI_ltI, nI_leI, nI_eq, nI_add, nI_mul, nI_clamp, n0l, n0r, nm1, nm1', nm1l, nm1r, nm1g, nsL, nI_m1, Nat.add_sub_cancel, vpn, vpL, nclL, le32, leLL, leLN, leNL, leNN, inA, nb0, nb1, gi_wi_n, gi_wi_e, gi_rw_n, gi_rw_e, aWi_rw, ifl, ifl_, ifle, ifle_, ifq, ifq_, ifnq, ifnq_, ifnl, ifnl_, ifnle, ifnle_, z32 ok, z342 ok, r32_11 ok, c_room ok r7]
      refine c_goW it P1 P5 hW cr3 (fun h4 cr4 g4 => ?_)
      have ok := cr4.1.1.1
      have e2 := g4.2.2.2 m m6
      rw [show cnt (rdA (hdG g F (up (stG g) m (nI n)) (voG g) (dpG g) P (mudG g)) M L P (mudG g) W) m = stC g M F L W P m n from rfl] at e2
      have hk' := hk _ h4 ⟨rfl, nI n, sm_nI (by omega), cr4⟩
      rw [bsA, Nat.zero_add] at hk'
      simp (disch := omega) only [s134_0, s134_1, s134_2, s134_5, s134_8, s134_9, s134_12, s134_13, s134_14, s134_17, s134_18, s134_19, s134_20, s134_23, s134_24, s134_25, s134_26, s134_28, s134_29, s134_33, s134_34, s134_37, s134_40, s134_41, s134_44, s134_45, s134_47, s134_50, s134_51, s134_54, s134_55, s134_58, s134_61, s134_62, s134_65, s134_68, s134_69, s134_70, s134_72, s134_75, s134_76, s134_79, s134_82, s134_83, s134_84, s134_86, s134_88, s134_89, s134_92, s134_95, s134_96, s134_99, s134_100, s134_103, s134_105, true_or, or_true, or_false, false_or, or_self, Int32.reduceLT, Int32.reduceLE, Nat.add_zero, Nat.zero_add, Nat.not_lt_zero, not_false_eq_true, not_true_eq_false, and_assoc, kl_q, kl_i, kl_r, kl_n, kl_0, kl_l, cs_0, cs_i, cs_r, cs_n, cs_l, aRf_s, aRf_n, gi_wl, gi_wr, gl_wi, gl_wl, gl_wr, gr_wi, gr_wl, gr_wr, sh_wi, sh_wl, sh_wr, gl_cp, gr_cp, sh_cp, gl_rw, gr_rw, sh_rw, gi_rl, gr_rl, sh_rl, Option.toList_some, Option.toList_none, List.nil_append, List.cons_append, List.append_nil, Option.some.injEq, Prod.mk.injEq, and_true, true_and, and_self, if_true, if_false, reduceCtorEq, Nat.reduceLeDiff, Nat.reduceLT, Nat.reduceAdd, Nat.reduceEqDiff, false_and, and_false, exists_const, exists_eq_left, exists_eq_left', exists_and_left, and_assoc, nltL, nltR, nleL, nleR, neqL, neqR, naL, naR, nmL, nmR, nI_ltI, nI_leI, nI_eq, nI_add, nI_mul, nI_clamp, n0l, n0r, nm1, nm1', nm1l, nm1r, nm1g, nsL, nI_m1, Nat.add_sub_cancel, vpn, vpL, nclL, le32, leLL, leLN, leNL, leNN, inA, nb0, nb1, gi_wi_n, gi_wi_e, gi_rw_n, gi_rw_e, aWi_rw, ifl, ifl_, ifle, ifle_, ifq, ifq_, ifnq, ifnq_, ifnl, ifnl_, ifnle, ifnle_, z32 ok, z342 ok, z343 ok, r32_11 ok, r342_0 ok, e2, m6]
      by_cases h5 : (bsA (stC g M F L W P m) 0 n).2 < nI (stC g M F L W P m n)
      · rw [if_neg (Int32.not_le.mpr h5)]
        rw [if_pos h5] at hk'
        exact hk'
      · rw [if_pos (Int32.not_lt.mp h5)]
        rw [if_neg h5] at hk'
        exact hk'
    · rintro lv h' ⟨rfl, x, hx, cr1⟩
      have ok := cr1.1.1.1
      obtain ⟨r1, r2, r3, r4, r5, r6, r7, r8⟩ := rd58 it cr1.1.1
      rw [s134_31]
      simp (disch := omega) only [s134_0, s134_1, s134_2, s134_5, s134_8, s134_9, s134_12, s134_13, s134_14, s134_17, s134_18, s134_19, s134_20, s134_23, s134_24, s134_25, s134_26, s134_28, s134_29, s134_33, s134_34, s134_37, s134_40, s134_41, s134_44, s134_45, s134_47, s134_50, s134_51, s134_54, s134_55, s134_58, s134_61, s134_62, s134_65, s134_68, s134_69, s134_70, s134_72, s134_75, s134_76, s134_79, s134_82, s134_83, s134_84, s134_86, s134_88, s134_89, s134_92, s134_95, s134_96, s134_99, s134_100, s134_103, s134_105, true_or, or_true, or_false, false_or, or_self, Int32.reduceLT, Int32.reduceLE, Nat.add_zero, Nat.zero_add, Nat.not_lt_zero, not_false_eq_true, not_true_eq_false, and_assoc, kl_q, kl_i, kl_r, kl_n, kl_0, kl_l, cs_0, cs_i, cs_r, cs_n, cs_l, aRf_s, aRf_n, gi_wl, gi_wr, gl_wi, gl_wl, gl_wr, gr_wi, gr_wl, gr_wr, sh_wi, sh_wl, sh_wr, gl_cp, gr_cp, sh_cp, gl_rw, gr_rw, sh_rw, gi_rl, gr_rl, sh_rl, Option.toList_some, Option.toList_none, List.nil_append, List.cons_append, List.append_nil, Option.some.injEq, Prod.mk.injEq, and_true, true_and, and_self, if_true, if_false, reduceCtorEq, Nat.reduceLeDiff, Nat.reduceLT, Nat.reduceAdd, Nat.reduceEqDiff, false_and, and_false, exists_const, exists_eq_left, exists_eq_left', exists_and_left, and_assoc, nltL, nltR, nleL, nleR, neqL, neqR, naL, naR, nmL, nmR, nI_ltI, nI_leI, nI_eq, nI_add, nI_mul, nI_clamp, n0l, n0r, nm1, nm1', nm1l, nm1r, nm1g, nsL, nI_m1, Nat.add_sub_cancel, vpn, vpL, nclL, le32, leLL, leLN, leNL, leNN, inA, nb0, nb1, gi_wi_n, gi_wi_e, gi_rw_n, gi_rw_e, aWi_rw, ifl, ifl_, ifle, ifle_, ifq, ifq_, ifnq, ifnq_, ifnl, ifnl_, ifnle, ifnle_, z32 ok, c_len ok r5, show L < L + 1 by omega]
      rcases hw01 with rfl | rfl
      · simp (disch := omega) only [if_true, if_false, not_true_eq_false]
        first | exact ⟨rfl, cr1.1.1⟩ | exact cr1.1.1
      · simp (disch := omega) only [if_true, if_false, show ¬ (1 : Nat) = 0 by decide, not_false_eq_true]
        first | exact ⟨rfl, cr1.1.1⟩ | exact cr1.1.1
  · simp (disch := omega) only [s246_0, s246_1, s246_2, s246_5, s246_8, s246_9, s246_10, s246_11, s246_14, s246_17, s246_18, s246_19, s246_20, s246_21, s246_22, s246_23, s246_24, s246_25, s246_28, s246_29, s246_30, s246_31, s246_34, s246_35, s246_36, s246_39, s246_40, s246_43, s246_44, s246_47, true_or, or_true, or_false, false_or, or_self, Int32.reduceLT, Int32.reduceLE, Nat.add_zero, Nat.zero_add, Nat.not_lt_zero, not_false_eq_true, not_true_eq_false, and_assoc, kl_q, kl_i, kl_r, kl_n, kl_0, kl_l, cs_0, cs_i, cs_r, cs_n, cs_l, aRf_s, aRf_n, gi_wl, gi_wr, gl_wi, gl_wl, gl_wr, gr_wi, gr_wl, gr_wr, sh_wi, sh_wl, sh_wr, gl_cp, gr_cp, sh_cp, gl_rw, gr_rw, sh_rw, gi_rl, gr_rl, sh_rl, Option.toList_some, Option.toList_none, List.nil_append, List.cons_append, List.append_nil, Option.some.injEq, Prod.mk.injEq, and_true, true_and, and_self, if_true, if_false, reduceCtorEq, Nat.reduceLeDiff, Nat.reduceLT, Nat.reduceAdd, Nat.reduceEqDiff, false_and, and_false, exists_const, exists_eq_left, exists_eq_left', exists_and_left, and_assoc, nltL, nltR, nleL, nleR, neqL, neqR, naL, naR, nmL, nmR, nI_ltI, nI_leI, nI_eq, nI_add, nI_mul, nI_clamp, n0l, n0r, nm1, nm1', nm1l, nm1r, nm1g, nsL, nI_m1, Nat.add_sub_cancel, vpn, vpL, nclL, le32, leLL, leLN, leNL, leNN, inA, nb0, nb1, gi_wi_n, gi_wi_e, gi_rw_n, gi_rw_e, aWi_rw, ifl, ifl_, ifle, ifle_, ifq, ifq_, ifnq, ifnq_, ifnl, ifnl_, ifnle, ifnle_, z399 ok, z413 ok, r399_22 ok, m_isMan ok hM' r2, ha, m_in, hi, bI_0, r6]
    refine m_best (p := m) (lo := 0) (hi := L) (c := stC g M F L W P m) s (by omega) (by omega) (by omega) (fun k => stC_le hW) m6 (fun v h' Q' v1 v2 o1 o2 hq => ?_) (fun h' s' e1 => ?_)
    · exact m_mentionsG it cx.2.2.2.1 (cx.pb.st (sm_nI (by omega))) o1.1 (np_st cx hM o1 hm o2) hm hq
    · have ok := s'.1
      simp only [Nat.sub_zero] at e1 ⊢
      simp (disch := omega) only [s246_0, s246_1, s246_2, s246_5, s246_8, s246_9, s246_10, s246_11, s246_14, s246_17, s246_18, s246_19, s246_20, s246_21, s246_22, s246_23, s246_24, s246_25, s246_28, s246_29, s246_30, s246_31, s246_34, s246_35, s246_36, s246_39, s246_40, s246_43, s246_44, s246_47, true_or, or_true, or_false, false_or, or_self, Int32.reduceLT, Int32.reduceLE, Nat.add_zero, Nat.zero_add, Nat.not_lt_zero, not_false_eq_true, not_true_eq_false, and_assoc, kl_q, kl_i, kl_r, kl_n, kl_0, kl_l, cs_0, cs_i, cs_r, cs_n, cs_l, aRf_s, aRf_n, gi_wl, gi_wr, gl_wi, gl_wl, gl_wr, gr_wi, gr_wl, gr_wr, sh_wi, sh_wl, sh_wr, gl_cp, gr_cp, sh_cp, gl_rw, gr_rw, sh_rw, gi_rl, gr_rl, sh_rl, Option.toList_some, Option.toList_none, List.nil_append, List.cons_append, List.append_nil, Option.some.injEq, Prod.mk.injEq, and_true, true_and, and_self, if_true, if_false, reduceCtorEq, Nat.reduceLeDiff, Nat.reduceLT, Nat.reduceAdd, Nat.reduceEqDiff, false_and, and_false, exists_const, exists_eq_left, exists_eq_left', exists_and_left, and_assoc, nltL, nltR, nleL, nleR, neqL, neqR, naL, naR, nmL, nmR, nI_ltI, nI_leI, nI_eq, nI_add, nI_mul, nI_clamp, n0l, n0r, nm1, nm1', nm1l, nm1r, nm1g, nsL, nI_m1, Nat.add_sub_cancel, vpn, vpL, nclL, le32, leLL, leLN, leNL, leNN, inA, nb0, nb1, gi_wi_n, gi_wi_e, gi_rw_n, gi_rw_e, aWi_rw, ifl, ifl_, ifle, ifle_, ifq, ifq_, ifnq, ifnq_, ifnl, ifnl_, ifnle, ifnle_, z399 ok, e1]
      rcases hw01 with rfl | rfl
      · simp (disch := omega) only [if_true, if_false, not_true_eq_false]
        first | exact ⟨rfl, s'⟩ | exact s'
      · simp (disch := omega) only [if_true, if_false, show ¬ (1 : Nat) = 0 by decide, not_false_eq_true]
        first | exact ⟨rfl, s'⟩ | exact s'
end Q12
