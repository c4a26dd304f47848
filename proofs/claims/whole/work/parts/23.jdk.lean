-- deps: 22.box
/-! ===== the JDK's small methods ===== -/
def iabs (x : Int32) : Int32 := if 0 ≤ x then x else -x
def imax (x y : Int32) : Int32 := if x < y then y else x
def imin (x y : Int32) : Int32 := if y < x then y else x
def lmax (x y : Int64) : Int64 := if lg_cmp x y < 0 then y else x
def lmin (x y : Int64) : Int64 := if 0 < lg_cmp x y then y else x
def fmod (x y : Int32) : Int32 := if 0 ≤ x ^^^ y then x - x / y * y else if x - x / y * y = 0 then x - x / y * y else x - x / y * y + y
def ush (x s : Int32) : Int32 := (x.toUInt32 >>> (s.toUInt32 &&& Int32.toUInt32 31)).toInt32
def bc1 (x : Int32) : Int32 := x - (ush x 1 &&& 1431655765)
def bc2 (x : Int32) : Int32 := (x &&& 858993459) + (ush x 2 &&& 858993459)
def bc3 (x : Int32) : Int32 := x + ush x 4 &&& 252645135
def ibc (x : Int32) : Int32 := bc3 (bc2 (bc1 x)) + ush (bc3 (bc2 (bc1 x))) 8 + ush (bc3 (bc2 (bc1 x)) + ush (bc3 (bc2 (bc1 x))) 8) 16 &&& 63
theorem sp_abs {d : Nat} {h : aM} {Q : Option Value → aM → Prop} {x : Int32} : AW d 279 0 [some (.int x)] [] h Q ↔ Q (some (.int (iabs x))) h := by
  simp only [s279_0, s279_1, s279_4, s279_5, s279_6, s279_9, s279_10, true_or, or_true, or_false, false_or, or_self, Int32.reduceLT, Int32.reduceLE, Nat.add_zero, Nat.zero_add, Nat.not_lt_zero, not_false_eq_true, not_true_eq_false, and_assoc, kl_q, kl_i, kl_r, kl_n, kl_0, kl_l, cs_0, cs_i, cs_r, cs_n, cs_l, aRf_s, aRf_n, gi_wl, gi_wr, gl_wi, gl_wl, gl_wr, gr_wi, gr_wl, gr_wr, sh_wi, sh_wl, sh_wr, gl_cp, gr_cp, sh_cp, gl_rw, gr_rw, sh_rw, gi_rl, gr_rl, sh_rl, Option.toList_some, Option.toList_none, List.nil_append, List.cons_append, List.append_nil, Option.some.injEq, Prod.mk.injEq, and_true, true_and, and_self, if_true, if_false, reduceCtorEq, Nat.reduceLeDiff, Nat.reduceLT, Nat.reduceAdd, Nat.reduceEqDiff, false_and, and_false, exists_const, exists_eq_left, exists_eq_left', exists_and_left, and_assoc]
  unfold iabs
  split <;> rfl
theorem sp_max {d : Nat} {h : aM} {Q : Option Value → aM → Prop} {x y : Int32} : AW d 280 0 [some (.int x), some (.int y)] [] h Q ↔ Q (some (.int (imax x y))) h := by
  simp only [s280_0, s280_1, s280_2, s280_5, s280_6, s280_9, s280_10, true_or, or_true, or_false, false_or, or_self, Int32.reduceLT, Int32.reduceLE, Nat.add_zero, Nat.zero_add, Nat.not_lt_zero, not_false_eq_true, not_true_eq_false, and_assoc, kl_q, kl_i, kl_r, kl_n, kl_0, kl_l, cs_0, cs_i, cs_r, cs_n, cs_l, aRf_s, aRf_n, gi_wl, gi_wr, gl_wi, gl_wl, gl_wr, gr_wi, gr_wl, gr_wr, sh_wi, sh_wl, sh_wr, gl_cp, gr_cp, sh_cp, gl_rw, gr_rw, sh_rw, gi_rl, gr_rl, sh_rl, Option.toList_some, Option.toList_none, List.nil_append, List.cons_append, List.append_nil, Option.some.injEq, Prod.mk.injEq, and_true, true_and, and_self, if_true, if_false, reduceCtorEq, Nat.reduceLeDiff, Nat.reduceLT, Nat.reduceAdd, Nat.reduceEqDiff, false_and, and_false, exists_const, exists_eq_left, exists_eq_left', exists_and_left, and_assoc]
  unfold imax
  split <;> rfl
theorem sp_min {d : Nat} {h : aM} {Q : Option Value → aM → Prop} {x y : Int32} : AW d 282 0 [some (.int x), some (.int y)] [] h Q ↔ Q (some (.int (imin x y))) h := by
  simp only [s282_0, s282_1, s282_2, s282_5, s282_6, s282_9, s282_10, true_or, or_true, or_false, false_or, or_self, Int32.reduceLT, Int32.reduceLE, Nat.add_zero, Nat.zero_add, Nat.not_lt_zero, not_false_eq_true, not_true_eq_false, and_assoc, kl_q, kl_i, kl_r, kl_n, kl_0, kl_l, cs_0, cs_i, cs_r, cs_n, cs_l, aRf_s, aRf_n, gi_wl, gi_wr, gl_wi, gl_wl, gl_wr, gr_wi, gr_wl, gr_wr, sh_wi, sh_wl, sh_wr, gl_cp, gr_cp, sh_cp, gl_rw, gr_rw, sh_rw, gi_rl, gr_rl, sh_rl, Option.toList_some, Option.toList_none, List.nil_append, List.cons_append, List.append_nil, Option.some.injEq, Prod.mk.injEq, and_true, true_and, and_self, if_true, if_false, reduceCtorEq, Nat.reduceLeDiff, Nat.reduceLT, Nat.reduceAdd, Nat.reduceEqDiff, false_and, and_false, exists_const, exists_eq_left, exists_eq_left', exists_and_left, and_assoc]
  unfold imin
  split <;> rfl
theorem sp_lmax {d : Nat} {h : aM} {Q : Option Value → aM → Prop} {x y : Int64} : AW d 281 0 [some (.long x), none, some (.long y), none] [] h Q ↔ Q (some (.long (lmax x y))) h := by
  simp only [s281_0, s281_1, s281_2, s281_3, s281_6, s281_7, s281_10, s281_11, true_or, or_true, or_false, false_or, or_self, Int32.reduceLT, Int32.reduceLE, Nat.add_zero, Nat.zero_add, Nat.not_lt_zero, not_false_eq_true, not_true_eq_false, and_assoc, kl_q, kl_i, kl_r, kl_n, kl_0, kl_l, cs_0, cs_i, cs_r, cs_n, cs_l, aRf_s, aRf_n, gi_wl, gi_wr, gl_wi, gl_wl, gl_wr, gr_wi, gr_wl, gr_wr, sh_wi, sh_wl, sh_wr, gl_cp, gr_cp, sh_cp, gl_rw, gr_rw, sh_rw, gi_rl, gr_rl, sh_rl, Option.toList_some, Option.toList_none, List.nil_append, List.cons_append, List.append_nil, Option.some.injEq, Prod.mk.injEq, and_true, true_and, and_self, if_true, if_false, reduceCtorEq, Nat.reduceLeDiff, Nat.reduceLT, Nat.reduceAdd, Nat.reduceEqDiff, false_and, and_false, exists_const, exists_eq_left, exists_eq_left', exists_and_left, and_assoc]
  unfold lmax
  split <;> rfl
theorem sp_lmin {d : Nat} {h : aM} {Q : Option Value → aM → Prop} {x y : Int64} : AW d 283 0 [some (.long x), none, some (.long y), none] [] h Q ↔ Q (some (.long (lmin x y))) h := by
  simp only [s283_0, s283_1, s283_2, s283_3, s283_6, s283_7, s283_10, s283_11, true_or, or_true, or_false, false_or, or_self, Int32.reduceLT, Int32.reduceLE, Nat.add_zero, Nat.zero_add, Nat.not_lt_zero, not_false_eq_true, not_true_eq_false, and_assoc, kl_q, kl_i, kl_r, kl_n, kl_0, kl_l, cs_0, cs_i, cs_r, cs_n, cs_l, aRf_s, aRf_n, gi_wl, gi_wr, gl_wi, gl_wl, gl_wr, gr_wi, gr_wl, gr_wr, sh_wi, sh_wl, sh_wr, gl_cp, gr_cp, sh_cp, gl_rw, gr_rw, sh_rw, gi_rl, gr_rl, sh_rl, Option.toList_some, Option.toList_none, List.nil_append, List.cons_append, List.append_nil, Option.some.injEq, Prod.mk.injEq, and_true, true_and, and_self, if_true, if_false, reduceCtorEq, Nat.reduceLeDiff, Nat.reduceLT, Nat.reduceAdd, Nat.reduceEqDiff, false_and, and_false, exists_const, exists_eq_left, exists_eq_left', exists_and_left, and_assoc]
  unfold lmin
  split <;> rfl
theorem sp_fmod {d : Nat} {h : aM} {Q : Option Value → aM → Prop} {x y : Int32} : AW d 278 0 [some (.int x), some (.int y), none] [] h Q ↔ ¬ y = 0 ∧ Q (some (.int (fmod x y))) h := by
  simp only [s278_0, s278_1, s278_2, s278_3, s278_4, s278_5, s278_6, s278_7, s278_10, s278_11, s278_14, s278_15, s278_16, s278_17, s278_18, s278_19, true_or, or_true, or_false, false_or, or_self, Int32.reduceLT, Int32.reduceLE, Nat.add_zero, Nat.zero_add, Nat.not_lt_zero, not_false_eq_true, not_true_eq_false, and_assoc, kl_q, kl_i, kl_r, kl_n, kl_0, kl_l, cs_0, cs_i, cs_r, cs_n, cs_l, aRf_s, aRf_n, gi_wl, gi_wr, gl_wi, gl_wl, gl_wr, gr_wi, gr_wl, gr_wr, sh_wi, sh_wl, sh_wr, gl_cp, gr_cp, sh_cp, gl_rw, gr_rw, sh_rw, gi_rl, gr_rl, sh_rl, Option.toList_some, Option.toList_none, List.nil_append, List.cons_append, List.append_nil, Option.some.injEq, Prod.mk.injEq, and_true, true_and, and_self, if_true, if_false, reduceCtorEq, Nat.reduceLeDiff, Nat.reduceLT, Nat.reduceAdd, Nat.reduceEqDiff, false_and, and_false, exists_const, exists_eq_left, exists_eq_left', exists_and_left, and_assoc]
  unfold fmod
  split
  · rfl
  · split <;> rfl
theorem sp_bits {d : Nat} {h : aM} {Q : Option Value → aM → Prop} {x : Int32} : AW d 277 0 [some (.int x)] [] h Q ↔ Q (some (.int (ibc x))) h := by
  simp only [s277_0, s277_1, s277_2, s277_3, s277_4, s277_7, s277_8, s277_9, s277_10, s277_11, s277_14, s277_15, s277_16, s277_17, s277_18, s277_21, s277_22, s277_23, s277_24, s277_25, s277_26, s277_27, s277_28, s277_29, s277_32, s277_33, s277_34, s277_35, s277_36, s277_38, s277_39, s277_40, s277_41, s277_42, s277_43, s277_45, s277_46, s277_47, s277_48, s277_49, s277_51, s277_52, true_or, or_true, or_false, false_or, or_self, Int32.reduceLT, Int32.reduceLE, Nat.add_zero, Nat.zero_add, Nat.not_lt_zero, not_false_eq_true, not_true_eq_false, and_assoc, kl_q, kl_i, kl_r, kl_n, kl_0, kl_l, cs_0, cs_i, cs_r, cs_n, cs_l, aRf_s, aRf_n, gi_wl, gi_wr, gl_wi, gl_wl, gl_wr, gr_wi, gr_wl, gr_wr, sh_wi, sh_wl, sh_wr, gl_cp, gr_cp, sh_cp, gl_rw, gr_rw, sh_rw, gi_rl, gr_rl, sh_rl, Option.toList_some, Option.toList_none, List.nil_append, List.cons_append, List.append_nil, Option.some.injEq, Prod.mk.injEq, and_true, true_and, and_self, if_true, if_false, reduceCtorEq, Nat.reduceLeDiff, Nat.reduceLT, Nat.reduceAdd, Nat.reduceEqDiff, false_and, and_false, exists_const, exists_eq_left, exists_eq_left', exists_and_left, and_assoc]
  exact Iff.rfl
theorem imin_self (x : Int32) : imin x x = x := by
  unfold imin
  split <;> rfl
theorem sp_row {d : Nat} {h : aM} {Q : Option Value → aM → Prop} {a b n : Nat} (ha : sh h a = some (100, n)) (hb : sh h b = some (100, n)) (h32 : 32 ≤ b) (hn : n < 2 ^ 31) : AW (d + 1) 159 0 [some (.ref a), some (.ref b)] [] h Q ↔ Q none (aCp h a b 0 0 n) := by
  have e0 : (0 : Int32).toNatClampNeg = 0 := rfl
  have e1 : ¬ (0 : Int32) < 0 := by decide
  simp (disch := omega) only [s159_0, s159_1, s159_2, s159_3, s159_4, s159_5, s159_6, s159_7, s159_8, s159_11, s159_14, true_or, or_true, or_false, false_or, or_self, Int32.reduceLT, Int32.reduceLE, Nat.add_zero, Nat.zero_add, Nat.not_lt_zero, not_false_eq_true, not_true_eq_false, and_assoc, kl_q, kl_i, kl_r, kl_n, kl_0, kl_l, cs_0, cs_i, cs_r, cs_n, cs_l, aRf_s, aRf_n, gi_wl, gi_wr, gl_wi, gl_wl, gl_wr, gr_wi, gr_wl, gr_wr, sh_wi, sh_wl, sh_wr, gl_cp, gr_cp, sh_cp, gl_rw, gr_rw, sh_rw, gi_rl, gr_rl, sh_rl, Option.toList_some, Option.toList_none, List.nil_append, List.cons_append, List.append_nil, Option.some.injEq, Prod.mk.injEq, and_true, true_and, and_self, if_true, if_false, reduceCtorEq, Nat.reduceLeDiff, Nat.reduceLT, Nat.reduceAdd, Nat.reduceEqDiff, false_and, and_false, exists_const, exists_eq_left, exists_eq_left', exists_and_left, and_assoc, nltL, nltR, nleL, nleR, neqL, neqR, naL, naR, nmL, nmR, nI_ltI, nI_leI, nI_eq, nI_add, nI_mul, nI_clamp, n0l, n0r, nm1, nm1', nm1l, nm1r, nm1g, nsL, nI_m1, Nat.add_sub_cancel, vpn, vpL, nclL, le32, leLL, leLN, leNL, leNN, inA, nb0, nb1, ha, hb, sp_min, imin_self, h32, e0, e1, not_false_eq_true, Nat.zero_add, Nat.le_refl]
def fillF (f : Nat → Int32) (n : Nat) (x : Int32) : Nat → Int32 := fun j => if j < n then x else f j
theorem sp_fillI {d : Nat} {h : aM} {Q : Option Value → aM → Prop} {a n : Nat} {x : Int32} (ha : sh h a = some (100, n)) (h32 : 32 ≤ a) (hn : n < 2 ^ 31) (hq : Q none (aRw h a (fillF (gi h a) n x))) : AW d 293 0 [some (.ref a), some (.int x), none, none] [] h Q := by
  simp only [s293_0, s293_1, s293_2, s293_3, s293_4, s293_6, s293_7, s293_10, s293_11, s293_12, s293_13, s293_14, s293_17, s293_20, true_or, or_true, or_false, false_or, or_self, Int32.reduceLT, Int32.reduceLE, Nat.add_zero, Nat.zero_add, Nat.not_lt_zero, not_false_eq_true, not_true_eq_false, and_assoc, kl_q, kl_i, kl_r, kl_n, kl_0, kl_l, cs_0, cs_i, cs_r, cs_n, cs_l, aRf_s, aRf_n, gi_wl, gi_wr, gl_wi, gl_wl, gl_wr, gr_wi, gr_wl, gr_wr, sh_wi, sh_wl, sh_wr, gl_cp, gr_cp, sh_cp, gl_rw, gr_rw, sh_rw, gi_rl, gr_rl, sh_rl, Option.toList_some, Option.toList_none, List.nil_append, List.cons_append, List.append_nil, Option.some.injEq, Prod.mk.injEq, and_true, true_and, and_self, if_true, if_false, reduceCtorEq, Nat.reduceLeDiff, Nat.reduceLT, Nat.reduceAdd, Nat.reduceEqDiff, false_and, and_false, exists_const, exists_eq_left, exists_eq_left', exists_and_left, and_assoc, ha]
  refine aLoop n (fun j lv h' => lv = [some (.ref a), some (.int x), some (.int (nI j)), some (.int (nI n))] ∧ h' = aRw h a (fillF (gi h a) j x)) ?_ ?_ 0 _ _ (Nat.zero_le _) ⟨rfl, ?_⟩
  · rintro j lv h' hj ⟨rfl, rfl⟩ hk
    rw [s293_5]
    simp (disch := omega) only [s293_0, s293_1, s293_2, s293_3, s293_4, s293_6, s293_7, s293_10, s293_11, s293_12, s293_13, s293_14, s293_17, s293_20, true_or, or_true, or_false, false_or, or_self, Int32.reduceLT, Int32.reduceLE, Nat.add_zero, Nat.zero_add, Nat.not_lt_zero, not_false_eq_true, not_true_eq_false, and_assoc, kl_q, kl_i, kl_r, kl_n, kl_0, kl_l, cs_0, cs_i, cs_r, cs_n, cs_l, aRf_s, aRf_n, gi_wl, gi_wr, gl_wi, gl_wl, gl_wr, gr_wi, gr_wl, gr_wr, sh_wi, sh_wl, sh_wr, gl_cp, gr_cp, sh_cp, gl_rw, gr_rw, sh_rw, gi_rl, gr_rl, sh_rl, Option.toList_some, Option.toList_none, List.nil_append, List.cons_append, List.append_nil, Option.some.injEq, Prod.mk.injEq, and_true, true_and, and_self, if_true, if_false, reduceCtorEq, Nat.reduceLeDiff, Nat.reduceLT, Nat.reduceAdd, Nat.reduceEqDiff, false_and, and_false, exists_const, exists_eq_left, exists_eq_left', exists_and_left, and_assoc, nltL, nltR, nleL, nleR, neqL, neqR, naL, naR, nmL, nmR, nI_ltI, nI_leI, nI_eq, nI_add, nI_mul, nI_clamp, n0l, n0r, nm1, nm1', nm1l, nm1r, nm1g, nsL, nI_m1, Nat.add_sub_cancel, vpn, vpL, nclL, le32, leLL, leLN, leNL, leNN, inA, nb0, nb1, ha, sh_rw]
    rw [if_neg (by omega)]
    refine ⟨hj, h32, hk _ _ ⟨rfl, ?_⟩⟩
    rw [aWi_rw]
    congr 1
    funext i
    simp only [fillF]
    by_cases h1 : i = j
    · rw [if_pos h1, if_pos (by omega)]
    · rw [if_neg h1]
      by_cases h2 : i < j
      · rw [if_pos h2, if_pos (by omega)]
      · rw [if_neg h2, if_neg (by omega)]
  · rintro lv h' ⟨rfl, rfl⟩
    rw [s293_5]
    simp (disch := omega) only [s293_0, s293_1, s293_2, s293_3, s293_4, s293_6, s293_7, s293_10, s293_11, s293_12, s293_13, s293_14, s293_17, s293_20, true_or, or_true, or_false, false_or, or_self, Int32.reduceLT, Int32.reduceLE, Nat.add_zero, Nat.zero_add, Nat.not_lt_zero, not_false_eq_true, not_true_eq_false, and_assoc, kl_q, kl_i, kl_r, kl_n, kl_0, kl_l, cs_0, cs_i, cs_r, cs_n, cs_l, aRf_s, aRf_n, gi_wl, gi_wr, gl_wi, gl_wl, gl_wr, gr_wi, gr_wl, gr_wr, sh_wi, sh_wl, sh_wr, gl_cp, gr_cp, sh_cp, gl_rw, gr_rw, sh_rw, gi_rl, gr_rl, sh_rl, Option.toList_some, Option.toList_none, List.nil_append, List.cons_append, List.append_nil, Option.some.injEq, Prod.mk.injEq, and_true, true_and, and_self, if_true, if_false, reduceCtorEq, Nat.reduceLeDiff, Nat.reduceLT, Nat.reduceAdd, Nat.reduceEqDiff, false_and, and_false, exists_const, exists_eq_left, exists_eq_left', exists_and_left, and_assoc, nltL, nltR, nleL, nleR, neqL, neqR, naL, naR, nmL, nmR, nI_ltI, nI_leI, nI_eq, nI_add, nI_mul, nI_clamp, n0l, n0r, nm1, nm1', nm1l, nm1r, nm1g, nsL, nI_m1, Nat.add_sub_cancel, vpn, vpL, nclL, le32, leLL, leLN, leNL, leNN, inA, nb0, nb1, ha, Nat.le_refl]
    exact hq
  · have : fillF (gi h a) 0 x = gi h a := by
      funext j
      simp [fillF]
    rw [this, aRw_0]
def fillG (f : Nat → Int64) (n : Nat) (x : Int64) : Nat → Int64 := fun j => if j < n then x else f j
theorem sp_fillL {d : Nat} {h : aM} {Q : Option Value → aM → Prop} {a n : Nat} {x : Int64} (ha : sh h a = some (101, n)) (h32 : 32 ≤ a) (hn : n < 2 ^ 31) (hq : Q none (aRl h a (fillG (gl h a) n x))) : AW d 292 0 [some (.ref a), some (.long x), none, none, none] [] h Q := by
  simp only [s292_0, s292_1, s292_2, s292_3, s292_4, s292_7, s292_9, s292_12, s292_13, s292_14, s292_15, s292_16, s292_19, s292_22, true_or, or_true, or_false, false_or, or_self, Int32.reduceLT, Int32.reduceLE, Nat.add_zero, Nat.zero_add, Nat.not_lt_zero, not_false_eq_true, not_true_eq_false, and_assoc, kl_q, kl_i, kl_r, kl_n, kl_0, kl_l, cs_0, cs_i, cs_r, cs_n, cs_l, aRf_s, aRf_n, gi_wl, gi_wr, gl_wi, gl_wl, gl_wr, gr_wi, gr_wl, gr_wr, sh_wi, sh_wl, sh_wr, gl_cp, gr_cp, sh_cp, gl_rw, gr_rw, sh_rw, gi_rl, gr_rl, sh_rl, Option.toList_some, Option.toList_none, List.nil_append, List.cons_append, List.append_nil, Option.some.injEq, Prod.mk.injEq, and_true, true_and, and_self, if_true, if_false, reduceCtorEq, Nat.reduceLeDiff, Nat.reduceLT, Nat.reduceAdd, Nat.reduceEqDiff, false_and, and_false, exists_const, exists_eq_left, exists_eq_left', exists_and_left, and_assoc, ha]
  refine aLoop n (fun j lv h' => lv = [some (.ref a), some (.long x), none, some (.int (nI j)), some (.int (nI n))] ∧ h' = aRl h a (fillG (gl h a) j x)) ?_ ?_ 0 _ _ (Nat.zero_le _) ⟨rfl, ?_⟩
  · rintro j lv h' hj ⟨rfl, rfl⟩ hk
    rw [s292_6]
    simp (disch := omega) only [s292_0, s292_1, s292_2, s292_3, s292_4, s292_7, s292_9, s292_12, s292_13, s292_14, s292_15, s292_16, s292_19, s292_22, true_or, or_true, or_false, false_or, or_self, Int32.reduceLT, Int32.reduceLE, Nat.add_zero, Nat.zero_add, Nat.not_lt_zero, not_false_eq_true, not_true_eq_false, and_assoc, kl_q, kl_i, kl_r, kl_n, kl_0, kl_l, cs_0, cs_i, cs_r, cs_n, cs_l, aRf_s, aRf_n, gi_wl, gi_wr, gl_wi, gl_wl, gl_wr, gr_wi, gr_wl, gr_wr, sh_wi, sh_wl, sh_wr, gl_cp, gr_cp, sh_cp, gl_rw, gr_rw, sh_rw, gi_rl, gr_rl, sh_rl, Option.toList_some, Option.toList_none, List.nil_append, List.cons_append, List.append_nil, Option.some.injEq, Prod.mk.injEq, and_true, true_and, and_self, if_true, if_false, reduceCtorEq, Nat.reduceLeDiff, Nat.reduceLT, Nat.reduceAdd, Nat.reduceEqDiff, false_and, and_false, exists_const, exists_eq_left, exists_eq_left', exists_and_left, and_assoc, nltL, nltR, nleL, nleR, neqL, neqR, naL, naR, nmL, nmR, nI_ltI, nI_leI, nI_eq, nI_add, nI_mul, nI_clamp, n0l, n0r, nm1, nm1', nm1l, nm1r, nm1g, nsL, nI_m1, Nat.add_sub_cancel, vpn, vpL, nclL, le32, leLL, leLN, leNL, leNN, inA, nb0, nb1, ha, sh_rl]
    rw [if_neg (by omega)]
    refine ⟨hj, h32, hk _ _ ⟨rfl, ?_⟩⟩
    rw [aWl_rl]
    congr 1
    funext i
    simp only [fillG]
    by_cases h1 : i = j
    · rw [if_pos h1, if_pos (by omega)]
    · rw [if_neg h1]
      by_cases h2 : i < j
      · rw [if_pos h2, if_pos (by omega)]
      · rw [if_neg h2, if_neg (by omega)]
  · rintro lv h' ⟨rfl, rfl⟩
    rw [s292_6]
    simp (disch := omega) only [s292_0, s292_1, s292_2, s292_3, s292_4, s292_7, s292_9, s292_12, s292_13, s292_14, s292_15, s292_16, s292_19, s292_22, true_or, or_true, or_false, false_or, or_self, Int32.reduceLT, Int32.reduceLE, Nat.add_zero, Nat.zero_add, Nat.not_lt_zero, not_false_eq_true, not_true_eq_false, and_assoc, kl_q, kl_i, kl_r, kl_n, kl_0, kl_l, cs_0, cs_i, cs_r, cs_n, cs_l, aRf_s, aRf_n, gi_wl, gi_wr, gl_wi, gl_wl, gl_wr, gr_wi, gr_wl, gr_wr, sh_wi, sh_wl, sh_wr, gl_cp, gr_cp, sh_cp, gl_rw, gr_rw, sh_rw, gi_rl, gr_rl, sh_rl, Option.toList_some, Option.toList_none, List.nil_append, List.cons_append, List.append_nil, Option.some.injEq, Prod.mk.injEq, and_true, true_and, and_self, if_true, if_false, reduceCtorEq, Nat.reduceLeDiff, Nat.reduceLT, Nat.reduceAdd, Nat.reduceEqDiff, false_and, and_false, exists_const, exists_eq_left, exists_eq_left', exists_and_left, and_assoc, nltL, nltR, nleL, nleR, neqL, neqR, naL, naR, nmL, nmR, nI_ltI, nI_leI, nI_eq, nI_add, nI_mul, nI_clamp, n0l, n0r, nm1, nm1', nm1l, nm1r, nm1g, nsL, nI_m1, Nat.add_sub_cancel, vpn, vpL, nclL, le32, leLL, leLN, leNL, leNN, inA, nb0, nb1, ha, Nat.le_refl]
    exact hq
  · have : fillG (gl h a) 0 x = gl h a := by
      funext j
      simp [fillG]
    rw [this, aRl_0]
theorem Same.rw {h h' : aM} (s : Same h h') {a : Nat} {f : Nat → Int32} (q : ∀ k, Scr a k = true) : Same h (aRw h' a f) := ⟨s.1, fun b j r => by
  rw [gi_rw, if_neg, s.2 b j r]
  rintro rfl
  rw [q j] at r
  cases r⟩
theorem Same.rl {h h' : aM} (s : Same h h') {a : Nat} {f : Nat → Int64} : Same h (aRl h' a f) := ⟨s.1, fun b j r => s.2 b j r⟩
