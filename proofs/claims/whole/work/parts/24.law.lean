-- deps: 23.jdk
/-! ===== laws: how a row of signs is worked ===== -/
def cl64 (v : Int64) : Int32 := (lmax (-1000000) (lmin 1000000 v)).toInt32
def clI (x : Int) : Int := if x < -1000000 then -1000000 else if 1000000 < x then 1000000 else x
theorem l2i (v : Int64) : v.toInt32 = Int32.ofInt v.toInt := by
  rw [← Int64.toInt32_ofInt, Int64.ofInt_toInt]
theorem cl_i (v : Int64) : cl64 v = Int32.ofInt (clI v.toInt) := by
  have e : (1000000 : Int64).toInt = 1000000 := rfl
  have e' : (-1000000 : Int64).toInt = -1000000 := rfl
  unfold cl64 lmax lmin clI
  simp only [lg_cmp_gt, lg_cmp_lt, Int64.lt_iff_toInt_lt, e]
  by_cases h1 : v.toInt < 1000000
  · rw [if_pos h1, e']
    by_cases h2 : -1000000 < v.toInt
    · rw [if_pos h2, if_neg (by omega), if_neg (by omega), l2i]
    · rw [if_neg h2]
      by_cases h3 : v.toInt < -1000000
      · rw [if_pos h3]
        rfl
      · rw [if_neg h3, if_neg (by omega)]
        have : v.toInt = -1000000 := by omega
        rw [this]
        rfl
  · rw [if_neg h1, e, e', if_pos (by decide), if_neg (by omega)]
    by_cases h2 : 1000000 < v.toInt
    · rw [if_pos h2]
      rfl
    · rw [if_neg h2]
      have : v.toInt = 1000000 := by omega
      rw [this]
      rfl
theorem cl_c {v : Int64} {P : Int32 → Prop} : (if lg_cmp v 1000000 ≤ 0 then (if 0 ≤ lg_cmp v (-1000000) then P v.toInt32 else P (-1000000)) else P 1000000) ↔ P (cl64 v) := by
  have e : (1000000 : Int64).toInt = 1000000 := rfl
  have e' : (-1000000 : Int64).toInt = -1000000 := rfl
  rw [cl_i]
  simp only [lg_cmp_le, lg_cmp_ge, Int64.le_iff_toInt_le, e, e', clI]
  by_cases h1 : v.toInt ≤ 1000000
  · rw [if_pos h1]
    by_cases h2 : -1000000 ≤ v.toInt
    · rw [if_pos h2, if_neg (by omega), if_neg (by omega), l2i]
    · rw [if_neg h2, if_pos (by omega)]
      exact Iff.rfl
  · rw [if_neg h1, if_neg (by omega), if_pos (by omega)]
    exact Iff.rfl
def bd (x : Int32) : Prop := -1000000 ≤ x.toInt ∧ x.toInt ≤ 1000000
def bl (x : Int32) : Prop := x = 0 ∨ x = 1
theorem toI {x : Int} (h1 : -2147483648 ≤ x) (h2 : x < 2147483648) : (Int32.ofInt x).toInt = x := Int32.toInt_ofInt_of_le h1 h2
theorem cl_bd (v : Int64) : bd (cl64 v) := by
  have h : -1000000 ≤ clI v.toInt ∧ clI v.toInt ≤ 1000000 := by
    unfold clI
    split
    · omega
    · split <;> omega
  rw [cl_i]
  unfold bd
  rw [toI (by omega) (by omega)]
  exact h
theorem cl_id {x : Int32} (hx : bd x) : cl64 x.toInt64 = x := by
  rw [cl_i, Int32.toInt_toInt64]
  unfold bd at hx
  unfold clI
  rw [if_neg (by omega), if_neg (by omega), Int32.ofInt_toInt]
/-- two numbers joined by a sign, by the reference's number of it -/
def wk (c a b : Int32) : Int32 :=
  if c = 2 then cl64 (a.toInt64 + b.toInt64) else if c = 3 then cl64 (a.toInt64 - b.toInt64) else if c = 4 then cl64 (a.toInt64 * b.toInt64) else
  if c = 5 then (if b = 0 then 0 else cl64 (a.toInt64 / b.toInt64)) else if c = 6 then (if a = b then 1 else 0) else if c = 7 then (if a < b then 1 else 0) else
  if c = 8 then (if b < a then 1 else 0) else if c = 10 then (if a = 0 then 0 else if b = 0 then 0 else 1) else (if a = 0 then (if b = 0 then 0 else 1) else 1)
/-- the class's number of a sign -/
def encC (c v : Int32) : Int32 := if c = 0 then v else if c = 1 then -1 - v else if c = 9 then -20 else if c = 10 then -18 else if c = 11 then -19 else -9 - c
theorem lc0 (x : Int32) : lg_cmp x.toInt64 0 = 0 ↔ x = 0 := by
  rw [lg_cmp_eq, show (0 : Int64) = (0 : Int32).toInt64 from rfl]
  constructor
  · intro e
    have := congrArg Int64.toInt32 e
    rwa [Int32.toInt32_toInt64, Int32.toInt32_toInt64] at this
  · intro e
    rw [e]
theorem lce (x y : Int32) : lg_cmp x.toInt64 y.toInt64 = 0 ↔ x = y := by
  rw [lg_cmp_eq]
  constructor
  · intro e
    have := congrArg Int64.toInt32 e
    rwa [Int32.toInt32_toInt64, Int32.toInt32_toInt64] at this
  · intro e
    rw [e]
theorem lcg (x y : Int32) : 0 ≤ lg_cmp x.toInt64 y.toInt64 ↔ y ≤ x := by
  rw [lg_cmp_ge, Int64.le_iff_toInt_le, Int32.toInt_toInt64, Int32.toInt_toInt64, Int32.le_iff_toInt_le]
theorem lcl (x y : Int32) : lg_cmp x.toInt64 y.toInt64 ≤ 0 ↔ x ≤ y := by
  rw [lg_cmp_le, Int64.le_iff_toInt_le, Int32.toInt_toInt64, Int32.toInt_toInt64, Int32.le_iff_toInt_le]
theorem zl64 {x : Int32} (hx : ¬ x = 0) : ¬ x.toInt64 = 0 := by
  intro e
  apply hx
  have := congrArg Int64.toInt32 e
  rwa [Int32.toInt32_toInt64] at this
theorem cl_0 {P : Int32 → Prop} : (if lg_cmp 0 1000000 ≤ 0 then (if 0 ≤ lg_cmp 0 (-1000000) then P (Int64.toInt32 0) else P (-1000000)) else P 1000000) ↔ P 0 := cl_c (v := 0)
theorem cl_1 {P : Int32 → Prop} : (if lg_cmp 1 1000000 ≤ 0 then (if 0 ≤ lg_cmp 1 (-1000000) then P (Int64.toInt32 1) else P (-1000000)) else P 1000000) ↔ P 1 := cl_c (v := 1)
section WK
variable {d : Nat} {h : aM} {Q : Option Value → aM → Prop} {a b : Int32}
theorem iflt {a b : Int32} {p q : Prop} : (if b ≤ a then p else q) ↔ (if a < b then q else p) := by
  by_cases e : b ≤ a
  · rw [if_pos e, if_neg (Int32.not_lt.mpr e)]
  · rw [if_neg e, if_pos (Int32.not_le.mp e)]
theorem jn2 : AW d 38 0 [some (.int a), some (.int (-11)), some (.int b), none, none] [] h Q ↔ Q (some (.int (wk 2 a b))) h := by
  simp only [s38_0, s38_1_0, s38_1_1, s38_1_2, s38_1_3, s38_1_4, s38_1_5, s38_1_6, s38_1_7, s38_48, s38_49, s38_50, s38_51, s38_52, s38_53, s38_54, s38_57, s38_58, s38_59, s38_60, s38_61, s38_62, s38_63, s38_66, s38_67, s38_68, s38_69, s38_70, s38_71, s38_72, s38_75, s38_76, s38_79, s38_80, s38_83, s38_84, s38_85, s38_86, s38_87, s38_88, s38_91, s38_92, s38_93, s38_96, s38_97, s38_100, s38_101, s38_102, s38_105, s38_106, s38_107, s38_110, s38_111, s38_114, s38_115, s38_116, s38_119, s38_120, s38_121, s38_124, s38_125, s38_128, s38_129, s38_130, s38_133, s38_134, s38_135, s38_136, s38_137, s38_138, s38_141, s38_142, s38_143, s38_144, s38_145, s38_146, s38_147, s38_150, s38_151, s38_154, s38_156, s38_159, s38_160, s38_163, s38_164, s38_167, s38_169, s38_172, s38_173, s38_174, true_or, or_true, or_false, false_or, or_self, Int32.reduceLT, Int32.reduceLE, Nat.add_zero, Nat.zero_add, Nat.not_lt_zero, not_false_eq_true, not_true_eq_false, and_assoc, kl_q, kl_i, kl_r, kl_n, kl_0, kl_l, cs_0, cs_i, cs_r, cs_n, cs_l, aRf_s, aRf_n, gi_wl, gi_wr, gl_wi, gl_wl, gl_wr, gr_wi, gr_wl, gr_wr, sh_wi, sh_wl, sh_wr, gl_cp, gr_cp, sh_cp, gl_rw, gr_rw, sh_rw, gi_rl, gr_rl, sh_rl, Option.toList_some, Option.toList_none, List.nil_append, List.cons_append, List.append_nil, Option.some.injEq, Prod.mk.injEq, and_true, true_and, and_self, if_true, if_false, reduceCtorEq, Nat.reduceLeDiff, Nat.reduceLT, Nat.reduceAdd, Nat.reduceEqDiff, false_and, and_false, exists_const, exists_eq_left, exists_eq_left', exists_and_left, and_assoc]
  exact cl_c (P := fun x => Q (some (.int x)) h)
theorem jn3 : AW d 38 0 [some (.int a), some (.int (-12)), some (.int b), none, none] [] h Q ↔ Q (some (.int (wk 3 a b))) h := by
  simp only [s38_0, s38_1_0, s38_1_1, s38_1_2, s38_1_3, s38_1_4, s38_1_5, s38_1_6, s38_1_7, s38_48, s38_49, s38_50, s38_51, s38_52, s38_53, s38_54, s38_57, s38_58, s38_59, s38_60, s38_61, s38_62, s38_63, s38_66, s38_67, s38_68, s38_69, s38_70, s38_71, s38_72, s38_75, s38_76, s38_79, s38_80, s38_83, s38_84, s38_85, s38_86, s38_87, s38_88, s38_91, s38_92, s38_93, s38_96, s38_97, s38_100, s38_101, s38_102, s38_105, s38_106, s38_107, s38_110, s38_111, s38_114, s38_115, s38_116, s38_119, s38_120, s38_121, s38_124, s38_125, s38_128, s38_129, s38_130, s38_133, s38_134, s38_135, s38_136, s38_137, s38_138, s38_141, s38_142, s38_143, s38_144, s38_145, s38_146, s38_147, s38_150, s38_151, s38_154, s38_156, s38_159, s38_160, s38_163, s38_164, s38_167, s38_169, s38_172, s38_173, s38_174, true_or, or_true, or_false, false_or, or_self, Int32.reduceLT, Int32.reduceLE, Nat.add_zero, Nat.zero_add, Nat.not_lt_zero, not_false_eq_true, not_true_eq_false, and_assoc, kl_q, kl_i, kl_r, kl_n, kl_0, kl_l, cs_0, cs_i, cs_r, cs_n, cs_l, aRf_s, aRf_n, gi_wl, gi_wr, gl_wi, gl_wl, gl_wr, gr_wi, gr_wl, gr_wr, sh_wi, sh_wl, sh_wr, gl_cp, gr_cp, sh_cp, gl_rw, gr_rw, sh_rw, gi_rl, gr_rl, sh_rl, Option.toList_some, Option.toList_none, List.nil_append, List.cons_append, List.append_nil, Option.some.injEq, Prod.mk.injEq, and_true, true_and, and_self, if_true, if_false, reduceCtorEq, Nat.reduceLeDiff, Nat.reduceLT, Nat.reduceAdd, Nat.reduceEqDiff, false_and, and_false, exists_const, exists_eq_left, exists_eq_left', exists_and_left, and_assoc]
  exact cl_c (P := fun x => Q (some (.int x)) h)
theorem jn4 : AW d 38 0 [some (.int a), some (.int (-13)), some (.int b), none, none] [] h Q ↔ Q (some (.int (wk 4 a b))) h := by
  simp only [s38_0, s38_1_0, s38_1_1, s38_1_2, s38_1_3, s38_1_4, s38_1_5, s38_1_6, s38_1_7, s38_48, s38_49, s38_50, s38_51, s38_52, s38_53, s38_54, s38_57, s38_58, s38_59, s38_60, s38_61, s38_62, s38_63, s38_66, s38_67, s38_68, s38_69, s38_70, s38_71, s38_72, s38_75, s38_76, s38_79, s38_80, s38_83, s38_84, s38_85, s38_86, s38_87, s38_88, s38_91, s38_92, s38_93, s38_96, s38_97, s38_100, s38_101, s38_102, s38_105, s38_106, s38_107, s38_110, s38_111, s38_114, s38_115, s38_116, s38_119, s38_120, s38_121, s38_124, s38_125, s38_128, s38_129, s38_130, s38_133, s38_134, s38_135, s38_136, s38_137, s38_138, s38_141, s38_142, s38_143, s38_144, s38_145, s38_146, s38_147, s38_150, s38_151, s38_154, s38_156, s38_159, s38_160, s38_163, s38_164, s38_167, s38_169, s38_172, s38_173, s38_174, true_or, or_true, or_false, false_or, or_self, Int32.reduceLT, Int32.reduceLE, Nat.add_zero, Nat.zero_add, Nat.not_lt_zero, not_false_eq_true, not_true_eq_false, and_assoc, kl_q, kl_i, kl_r, kl_n, kl_0, kl_l, cs_0, cs_i, cs_r, cs_n, cs_l, aRf_s, aRf_n, gi_wl, gi_wr, gl_wi, gl_wl, gl_wr, gr_wi, gr_wl, gr_wr, sh_wi, sh_wl, sh_wr, gl_cp, gr_cp, sh_cp, gl_rw, gr_rw, sh_rw, gi_rl, gr_rl, sh_rl, Option.toList_some, Option.toList_none, List.nil_append, List.cons_append, List.append_nil, Option.some.injEq, Prod.mk.injEq, and_true, true_and, and_self, if_true, if_false, reduceCtorEq, Nat.reduceLeDiff, Nat.reduceLT, Nat.reduceAdd, Nat.reduceEqDiff, false_and, and_false, exists_const, exists_eq_left, exists_eq_left', exists_and_left, and_assoc]
  exact cl_c (P := fun x => Q (some (.int x)) h)
theorem jn5 (ha : bd a) : AW d 38 0 [some (.int a), some (.int (-14)), some (.int b), none, none] [] h Q ↔ Q (some (.int (wk 5 a b))) h := by
  simp only [s38_0, s38_1_0, s38_1_1, s38_1_2, s38_1_3, s38_1_4, s38_1_5, s38_1_6, s38_1_7, s38_48, s38_49, s38_50, s38_51, s38_52, s38_53, s38_54, s38_57, s38_58, s38_59, s38_60, s38_61, s38_62, s38_63, s38_66, s38_67, s38_68, s38_69, s38_70, s38_71, s38_72, s38_75, s38_76, s38_79, s38_80, s38_83, s38_84, s38_85, s38_86, s38_87, s38_88, s38_91, s38_92, s38_93, s38_96, s38_97, s38_100, s38_101, s38_102, s38_105, s38_106, s38_107, s38_110, s38_111, s38_114, s38_115, s38_116, s38_119, s38_120, s38_121, s38_124, s38_125, s38_128, s38_129, s38_130, s38_133, s38_134, s38_135, s38_136, s38_137, s38_138, s38_141, s38_142, s38_143, s38_144, s38_145, s38_146, s38_147, s38_150, s38_151, s38_154, s38_156, s38_159, s38_160, s38_163, s38_164, s38_167, s38_169, s38_172, s38_173, s38_174, true_or, or_true, or_false, false_or, or_self, Int32.reduceLT, Int32.reduceLE, Nat.add_zero, Nat.zero_add, Nat.not_lt_zero, not_false_eq_true, not_true_eq_false, and_assoc, kl_q, kl_i, kl_r, kl_n, kl_0, kl_l, cs_0, cs_i, cs_r, cs_n, cs_l, aRf_s, aRf_n, gi_wl, gi_wr, gl_wi, gl_wl, gl_wr, gr_wi, gr_wl, gr_wr, sh_wi, sh_wl, sh_wr, gl_cp, gr_cp, sh_cp, gl_rw, gr_rw, sh_rw, gi_rl, gr_rl, sh_rl, Option.toList_some, Option.toList_none, List.nil_append, List.cons_append, List.append_nil, Option.some.injEq, Prod.mk.injEq, and_true, true_and, and_self, if_true, if_false, reduceCtorEq, Nat.reduceLeDiff, Nat.reduceLT, Nat.reduceAdd, Nat.reduceEqDiff, false_and, and_false, exists_const, exists_eq_left, exists_eq_left', exists_and_left, and_assoc]
  by_cases hb : b = 0
  · subst hb
    simp only [not_true_eq_false, if_false, wk]
    exact cl_0 (P := fun x => Q (some (.int x)) h)
  · simp only [hb, not_false_eq_true, if_true, true_and]
    rw [show wk 5 a b = cl64 (a / b).toInt64 by
      rw [Int32.toInt64_div_of_ne_left _ _ (by
        rintro rfl
        have e : (Int32.minValue).toInt = -2147483648 := rfl
        unfold bd at ha
        omega)]
      simp [wk, hb]]
    exact cl_c (P := fun x => Q (some (.int x)) h)
theorem jn6 : AW d 38 0 [some (.int a), some (.int (-15)), some (.int b), none, none] [] h Q ↔ Q (some (.int (wk 6 a b))) h := by
  simp only [s38_0, s38_1_0, s38_1_1, s38_1_2, s38_1_3, s38_1_4, s38_1_5, s38_1_6, s38_1_7, s38_48, s38_49, s38_50, s38_51, s38_52, s38_53, s38_54, s38_57, s38_58, s38_59, s38_60, s38_61, s38_62, s38_63, s38_66, s38_67, s38_68, s38_69, s38_70, s38_71, s38_72, s38_75, s38_76, s38_79, s38_80, s38_83, s38_84, s38_85, s38_86, s38_87, s38_88, s38_91, s38_92, s38_93, s38_96, s38_97, s38_100, s38_101, s38_102, s38_105, s38_106, s38_107, s38_110, s38_111, s38_114, s38_115, s38_116, s38_119, s38_120, s38_121, s38_124, s38_125, s38_128, s38_129, s38_130, s38_133, s38_134, s38_135, s38_136, s38_137, s38_138, s38_141, s38_142, s38_143, s38_144, s38_145, s38_146, s38_147, s38_150, s38_151, s38_154, s38_156, s38_159, s38_160, s38_163, s38_164, s38_167, s38_169, s38_172, s38_173, s38_174, true_or, or_true, or_false, false_or, or_self, Int32.reduceLT, Int32.reduceLE, Nat.add_zero, Nat.zero_add, Nat.not_lt_zero, not_false_eq_true, not_true_eq_false, and_assoc, kl_q, kl_i, kl_r, kl_n, kl_0, kl_l, cs_0, cs_i, cs_r, cs_n, cs_l, aRf_s, aRf_n, gi_wl, gi_wr, gl_wi, gl_wl, gl_wr, gr_wi, gr_wl, gr_wr, sh_wi, sh_wl, sh_wr, gl_cp, gr_cp, sh_cp, gl_rw, gr_rw, sh_rw, gi_rl, gr_rl, sh_rl, Option.toList_some, Option.toList_none, List.nil_append, List.cons_append, List.append_nil, Option.some.injEq, Prod.mk.injEq, and_true, true_and, and_self, if_true, if_false, reduceCtorEq, Nat.reduceLeDiff, Nat.reduceLT, Nat.reduceAdd, Nat.reduceEqDiff, false_and, and_false, exists_const, exists_eq_left, exists_eq_left', exists_and_left, and_assoc]
  rw [cl_0 (P := fun x => Q (some (.int x)) h), cl_1 (P := fun x => Q (some (.int x)) h)]
  by_cases e : a = b <;> simp [e, wk]
theorem jn7 : AW d 38 0 [some (.int a), some (.int (-16)), some (.int b), none, none] [] h Q ↔ Q (some (.int (wk 7 a b))) h := by
  simp only [s38_0, s38_1_0, s38_1_1, s38_1_2, s38_1_3, s38_1_4, s38_1_5, s38_1_6, s38_1_7, s38_48, s38_49, s38_50, s38_51, s38_52, s38_53, s38_54, s38_57, s38_58, s38_59, s38_60, s38_61, s38_62, s38_63, s38_66, s38_67, s38_68, s38_69, s38_70, s38_71, s38_72, s38_75, s38_76, s38_79, s38_80, s38_83, s38_84, s38_85, s38_86, s38_87, s38_88, s38_91, s38_92, s38_93, s38_96, s38_97, s38_100, s38_101, s38_102, s38_105, s38_106, s38_107, s38_110, s38_111, s38_114, s38_115, s38_116, s38_119, s38_120, s38_121, s38_124, s38_125, s38_128, s38_129, s38_130, s38_133, s38_134, s38_135, s38_136, s38_137, s38_138, s38_141, s38_142, s38_143, s38_144, s38_145, s38_146, s38_147, s38_150, s38_151, s38_154, s38_156, s38_159, s38_160, s38_163, s38_164, s38_167, s38_169, s38_172, s38_173, s38_174, true_or, or_true, or_false, false_or, or_self, Int32.reduceLT, Int32.reduceLE, Nat.add_zero, Nat.zero_add, Nat.not_lt_zero, not_false_eq_true, not_true_eq_false, and_assoc, kl_q, kl_i, kl_r, kl_n, kl_0, kl_l, cs_0, cs_i, cs_r, cs_n, cs_l, aRf_s, aRf_n, gi_wl, gi_wr, gl_wi, gl_wl, gl_wr, gr_wi, gr_wl, gr_wr, sh_wi, sh_wl, sh_wr, gl_cp, gr_cp, sh_cp, gl_rw, gr_rw, sh_rw, gi_rl, gr_rl, sh_rl, Option.toList_some, Option.toList_none, List.nil_append, List.cons_append, List.append_nil, Option.some.injEq, Prod.mk.injEq, and_true, true_and, and_self, if_true, if_false, reduceCtorEq, Nat.reduceLeDiff, Nat.reduceLT, Nat.reduceAdd, Nat.reduceEqDiff, false_and, and_false, exists_const, exists_eq_left, exists_eq_left', exists_and_left, and_assoc]
  rw [cl_0 (P := fun x => Q (some (.int x)) h), cl_1 (P := fun x => Q (some (.int x)) h), iflt]
  by_cases e : a < b <;> simp [e, wk]
theorem jn8 : AW d 38 0 [some (.int a), some (.int (-17)), some (.int b), none, none] [] h Q ↔ Q (some (.int (wk 8 a b))) h := by
  simp only [s38_0, s38_1_0, s38_1_1, s38_1_2, s38_1_3, s38_1_4, s38_1_5, s38_1_6, s38_1_7, s38_48, s38_49, s38_50, s38_51, s38_52, s38_53, s38_54, s38_57, s38_58, s38_59, s38_60, s38_61, s38_62, s38_63, s38_66, s38_67, s38_68, s38_69, s38_70, s38_71, s38_72, s38_75, s38_76, s38_79, s38_80, s38_83, s38_84, s38_85, s38_86, s38_87, s38_88, s38_91, s38_92, s38_93, s38_96, s38_97, s38_100, s38_101, s38_102, s38_105, s38_106, s38_107, s38_110, s38_111, s38_114, s38_115, s38_116, s38_119, s38_120, s38_121, s38_124, s38_125, s38_128, s38_129, s38_130, s38_133, s38_134, s38_135, s38_136, s38_137, s38_138, s38_141, s38_142, s38_143, s38_144, s38_145, s38_146, s38_147, s38_150, s38_151, s38_154, s38_156, s38_159, s38_160, s38_163, s38_164, s38_167, s38_169, s38_172, s38_173, s38_174, true_or, or_true, or_false, false_or, or_self, Int32.reduceLT, Int32.reduceLE, Nat.add_zero, Nat.zero_add, Nat.not_lt_zero, not_false_eq_true, not_true_eq_false, and_assoc, kl_q, kl_i, kl_r, kl_n, kl_0, kl_l, cs_0, cs_i, cs_r, cs_n, cs_l, aRf_s, aRf_n, gi_wl, gi_wr, gl_wi, gl_wl, gl_wr, gr_wi, gr_wl, gr_wr, sh_wi, sh_wl, sh_wr, gl_cp, gr_cp, sh_cp, gl_rw, gr_rw, sh_rw, gi_rl, gr_rl, sh_rl, Option.toList_some, Option.toList_none, List.nil_append, List.cons_append, List.append_nil, Option.some.injEq, Prod.mk.injEq, and_true, true_and, and_self, if_true, if_false, reduceCtorEq, Nat.reduceLeDiff, Nat.reduceLT, Nat.reduceAdd, Nat.reduceEqDiff, false_and, and_false, exists_const, exists_eq_left, exists_eq_left', exists_and_left, and_assoc]
  rw [cl_0 (P := fun x => Q (some (.int x)) h), cl_1 (P := fun x => Q (some (.int x)) h), iflt]
  by_cases e : b < a <;> simp [e, wk]
theorem jn10 (ha : bl a) (hb : bl b) : AW d 38 0 [some (.int a), some (.int (-18)), some (.int b), none, none] [] h Q ↔ Q (some (.int (wk 10 a b))) h := by
  simp only [s38_0, s38_1_0, s38_1_1, s38_1_2, s38_1_3, s38_1_4, s38_1_5, s38_1_6, s38_1_7, s38_48, s38_49, s38_50, s38_51, s38_52, s38_53, s38_54, s38_57, s38_58, s38_59, s38_60, s38_61, s38_62, s38_63, s38_66, s38_67, s38_68, s38_69, s38_70, s38_71, s38_72, s38_75, s38_76, s38_79, s38_80, s38_83, s38_84, s38_85, s38_86, s38_87, s38_88, s38_91, s38_92, s38_93, s38_96, s38_97, s38_100, s38_101, s38_102, s38_105, s38_106, s38_107, s38_110, s38_111, s38_114, s38_115, s38_116, s38_119, s38_120, s38_121, s38_124, s38_125, s38_128, s38_129, s38_130, s38_133, s38_134, s38_135, s38_136, s38_137, s38_138, s38_141, s38_142, s38_143, s38_144, s38_145, s38_146, s38_147, s38_150, s38_151, s38_154, s38_156, s38_159, s38_160, s38_163, s38_164, s38_167, s38_169, s38_172, s38_173, s38_174, true_or, or_true, or_false, false_or, or_self, Int32.reduceLT, Int32.reduceLE, Nat.add_zero, Nat.zero_add, Nat.not_lt_zero, not_false_eq_true, not_true_eq_false, and_assoc, kl_q, kl_i, kl_r, kl_n, kl_0, kl_l, cs_0, cs_i, cs_r, cs_n, cs_l, aRf_s, aRf_n, gi_wl, gi_wr, gl_wi, gl_wl, gl_wr, gr_wi, gr_wl, gr_wr, sh_wi, sh_wl, sh_wr, gl_cp, gr_cp, sh_cp, gl_rw, gr_rw, sh_rw, gi_rl, gr_rl, sh_rl, Option.toList_some, Option.toList_none, List.nil_append, List.cons_append, List.append_nil, Option.some.injEq, Prod.mk.injEq, and_true, true_and, and_self, if_true, if_false, reduceCtorEq, Nat.reduceLeDiff, Nat.reduceLT, Nat.reduceAdd, Nat.reduceEqDiff, false_and, and_false, exists_const, exists_eq_left, exists_eq_left', exists_and_left, and_assoc]
  rcases ha with rfl | rfl <;> rcases hb with rfl | rfl <;> exact cl_c (P := fun x => Q (some (.int x)) h)
theorem jn11 (ha : bl a) (hb : bl b) : AW d 38 0 [some (.int a), some (.int (-19)), some (.int b), none, none] [] h Q ↔ Q (some (.int (wk 11 a b))) h := by
  have e : (-19 : Int32).toInt < -18 ∨ -11 < (-19 : Int32).toInt := Or.inl (by decide)
  simp only [s38_0, s38_1_0, s38_1_1, s38_1_2, s38_1_3, s38_1_4, s38_1_5, s38_1_6, s38_1_7, s38_48, s38_49, s38_50, s38_51, s38_52, s38_53, s38_54, s38_57, s38_58, s38_59, s38_60, s38_61, s38_62, s38_63, s38_66, s38_67, s38_68, s38_69, s38_70, s38_71, s38_72, s38_75, s38_76, s38_79, s38_80, s38_83, s38_84, s38_85, s38_86, s38_87, s38_88, s38_91, s38_92, s38_93, s38_96, s38_97, s38_100, s38_101, s38_102, s38_105, s38_106, s38_107, s38_110, s38_111, s38_114, s38_115, s38_116, s38_119, s38_120, s38_121, s38_124, s38_125, s38_128, s38_129, s38_130, s38_133, s38_134, s38_135, s38_136, s38_137, s38_138, s38_141, s38_142, s38_143, s38_144, s38_145, s38_146, s38_147, s38_150, s38_151, s38_154, s38_156, s38_159, s38_160, s38_163, s38_164, s38_167, s38_169, s38_172, s38_173, s38_174, true_or, or_true, or_false, false_or, or_self, Int32.reduceLT, Int32.reduceLE, Nat.add_zero, Nat.zero_add, Nat.not_lt_zero, not_false_eq_true, not_true_eq_false, and_assoc, kl_q, kl_i, kl_r, kl_n, kl_0, kl_l, cs_0, cs_i, cs_r, cs_n, cs_l, aRf_s, aRf_n, gi_wl, gi_wr, gl_wi, gl_wl, gl_wr, gr_wi, gr_wl, gr_wr, sh_wi, sh_wl, sh_wr, gl_cp, gr_cp, sh_cp, gl_rw, gr_rw, sh_rw, gi_rl, gr_rl, sh_rl, Option.toList_some, Option.toList_none, List.nil_append, List.cons_append, List.append_nil, Option.some.injEq, Prod.mk.injEq, and_true, true_and, and_self, if_true, if_false, reduceCtorEq, Nat.reduceLeDiff, Nat.reduceLT, Nat.reduceAdd, Nat.reduceEqDiff, false_and, and_false, exists_const, exists_eq_left, exists_eq_left', exists_and_left, and_assoc, s38_1_d e]
  rcases ha with rfl | rfl <;> rcases hb with rfl | rfl <;> exact cl_c (P := fun x => Q (some (.int x)) h)
theorem wo2 : AW (d + 2) 191 0 [some (.int 2), some (.long a.toInt64), none, some (.long b.toInt64), none] [] h Q ↔ Q (some (.int (wk 2 a b))) h := by
  simp only [s191_0, s191_1_0, s191_1_1, s191_1_2, s191_1_3, s191_1_4, s191_1_5, s191_1_6, s191_1_7, s191_1_8, s191_52, s191_53, s191_54, s191_55, s191_58, s191_59, s191_60, s191_61, s191_62, s191_65, s191_66, s191_67, s191_68, s191_69, s191_72, s191_73, s191_74, s191_75, s191_76, s191_79, s191_80, s191_83, s191_84, s191_85, s191_86, s191_89, s191_90, s191_91, s191_92, s191_93, s191_96, s191_97, s191_100, s191_101, s191_102, s191_103, s191_104, s191_105, s191_108, s191_109, s191_112, s191_113, s191_114, s191_115, s191_116, s191_117, s191_120, s191_121, s191_124, s191_125, s191_126, s191_127, s191_128, s191_129, s191_132, s191_133, s191_134, s191_135, s191_138, s191_139, s191_142, s191_143, s191_144, s191_145, s191_146, s191_147, s191_150, s191_151, s191_152, s191_153, s191_156, s191_157, s191_160, s191_161, s190_0, s190_3, s190_6, s190_7, s190_10, s190_13, s190_14, sp_lmax, sp_lmin, true_or, or_true, or_false, false_or, or_self, Int32.reduceLT, Int32.reduceLE, Nat.add_zero, Nat.zero_add, Nat.not_lt_zero, not_false_eq_true, not_true_eq_false, and_assoc, kl_q, kl_i, kl_r, kl_n, kl_0, kl_l, cs_0, cs_i, cs_r, cs_n, cs_l, aRf_s, aRf_n, gi_wl, gi_wr, gl_wi, gl_wl, gl_wr, gr_wi, gr_wl, gr_wr, sh_wi, sh_wl, sh_wr, gl_cp, gr_cp, sh_cp, gl_rw, gr_rw, sh_rw, gi_rl, gr_rl, sh_rl, Option.toList_some, Option.toList_none, List.nil_append, List.cons_append, List.append_nil, Option.some.injEq, Prod.mk.injEq, and_true, true_and, and_self, if_true, if_false, reduceCtorEq, Nat.reduceLeDiff, Nat.reduceLT, Nat.reduceAdd, Nat.reduceEqDiff, false_and, and_false, exists_const, exists_eq_left, exists_eq_left', exists_and_left, and_assoc]
  exact Iff.rfl
theorem wo3 : AW (d + 2) 191 0 [some (.int 3), some (.long a.toInt64), none, some (.long b.toInt64), none] [] h Q ↔ Q (some (.int (wk 3 a b))) h := by
  simp only [s191_0, s191_1_0, s191_1_1, s191_1_2, s191_1_3, s191_1_4, s191_1_5, s191_1_6, s191_1_7, s191_1_8, s191_52, s191_53, s191_54, s191_55, s191_58, s191_59, s191_60, s191_61, s191_62, s191_65, s191_66, s191_67, s191_68, s191_69, s191_72, s191_73, s191_74, s191_75, s191_76, s191_79, s191_80, s191_83, s191_84, s191_85, s191_86, s191_89, s191_90, s191_91, s191_92, s191_93, s191_96, s191_97, s191_100, s191_101, s191_102, s191_103, s191_104, s191_105, s191_108, s191_109, s191_112, s191_113, s191_114, s191_115, s191_116, s191_117, s191_120, s191_121, s191_124, s191_125, s191_126, s191_127, s191_128, s191_129, s191_132, s191_133, s191_134, s191_135, s191_138, s191_139, s191_142, s191_143, s191_144, s191_145, s191_146, s191_147, s191_150, s191_151, s191_152, s191_153, s191_156, s191_157, s191_160, s191_161, s190_0, s190_3, s190_6, s190_7, s190_10, s190_13, s190_14, sp_lmax, sp_lmin, true_or, or_true, or_false, false_or, or_self, Int32.reduceLT, Int32.reduceLE, Nat.add_zero, Nat.zero_add, Nat.not_lt_zero, not_false_eq_true, not_true_eq_false, and_assoc, kl_q, kl_i, kl_r, kl_n, kl_0, kl_l, cs_0, cs_i, cs_r, cs_n, cs_l, aRf_s, aRf_n, gi_wl, gi_wr, gl_wi, gl_wl, gl_wr, gr_wi, gr_wl, gr_wr, sh_wi, sh_wl, sh_wr, gl_cp, gr_cp, sh_cp, gl_rw, gr_rw, sh_rw, gi_rl, gr_rl, sh_rl, Option.toList_some, Option.toList_none, List.nil_append, List.cons_append, List.append_nil, Option.some.injEq, Prod.mk.injEq, and_true, true_and, and_self, if_true, if_false, reduceCtorEq, Nat.reduceLeDiff, Nat.reduceLT, Nat.reduceAdd, Nat.reduceEqDiff, false_and, and_false, exists_const, exists_eq_left, exists_eq_left', exists_and_left, and_assoc]
  exact Iff.rfl
theorem wo4 : AW (d + 2) 191 0 [some (.int 4), some (.long a.toInt64), none, some (.long b.toInt64), none] [] h Q ↔ Q (some (.int (wk 4 a b))) h := by
  simp only [s191_0, s191_1_0, s191_1_1, s191_1_2, s191_1_3, s191_1_4, s191_1_5, s191_1_6, s191_1_7, s191_1_8, s191_52, s191_53, s191_54, s191_55, s191_58, s191_59, s191_60, s191_61, s191_62, s191_65, s191_66, s191_67, s191_68, s191_69, s191_72, s191_73, s191_74, s191_75, s191_76, s191_79, s191_80, s191_83, s191_84, s191_85, s191_86, s191_89, s191_90, s191_91, s191_92, s191_93, s191_96, s191_97, s191_100, s191_101, s191_102, s191_103, s191_104, s191_105, s191_108, s191_109, s191_112, s191_113, s191_114, s191_115, s191_116, s191_117, s191_120, s191_121, s191_124, s191_125, s191_126, s191_127, s191_128, s191_129, s191_132, s191_133, s191_134, s191_135, s191_138, s191_139, s191_142, s191_143, s191_144, s191_145, s191_146, s191_147, s191_150, s191_151, s191_152, s191_153, s191_156, s191_157, s191_160, s191_161, s190_0, s190_3, s190_6, s190_7, s190_10, s190_13, s190_14, sp_lmax, sp_lmin, true_or, or_true, or_false, false_or, or_self, Int32.reduceLT, Int32.reduceLE, Nat.add_zero, Nat.zero_add, Nat.not_lt_zero, not_false_eq_true, not_true_eq_false, and_assoc, kl_q, kl_i, kl_r, kl_n, kl_0, kl_l, cs_0, cs_i, cs_r, cs_n, cs_l, aRf_s, aRf_n, gi_wl, gi_wr, gl_wi, gl_wl, gl_wr, gr_wi, gr_wl, gr_wr, sh_wi, sh_wl, sh_wr, gl_cp, gr_cp, sh_cp, gl_rw, gr_rw, sh_rw, gi_rl, gr_rl, sh_rl, Option.toList_some, Option.toList_none, List.nil_append, List.cons_append, List.append_nil, Option.some.injEq, Prod.mk.injEq, and_true, true_and, and_self, if_true, if_false, reduceCtorEq, Nat.reduceLeDiff, Nat.reduceLT, Nat.reduceAdd, Nat.reduceEqDiff, false_and, and_false, exists_const, exists_eq_left, exists_eq_left', exists_and_left, and_assoc]
  exact Iff.rfl
theorem wo5 : AW (d + 2) 191 0 [some (.int 5), some (.long a.toInt64), none, some (.long b.toInt64), none] [] h Q ↔ Q (some (.int (wk 5 a b))) h := by
  simp only [s191_0, s191_1_0, s191_1_1, s191_1_2, s191_1_3, s191_1_4, s191_1_5, s191_1_6, s191_1_7, s191_1_8, s191_52, s191_53, s191_54, s191_55, s191_58, s191_59, s191_60, s191_61, s191_62, s191_65, s191_66, s191_67, s191_68, s191_69, s191_72, s191_73, s191_74, s191_75, s191_76, s191_79, s191_80, s191_83, s191_84, s191_85, s191_86, s191_89, s191_90, s191_91, s191_92, s191_93, s191_96, s191_97, s191_100, s191_101, s191_102, s191_103, s191_104, s191_105, s191_108, s191_109, s191_112, s191_113, s191_114, s191_115, s191_116, s191_117, s191_120, s191_121, s191_124, s191_125, s191_126, s191_127, s191_128, s191_129, s191_132, s191_133, s191_134, s191_135, s191_138, s191_139, s191_142, s191_143, s191_144, s191_145, s191_146, s191_147, s191_150, s191_151, s191_152, s191_153, s191_156, s191_157, s191_160, s191_161, s190_0, s190_3, s190_6, s190_7, s190_10, s190_13, s190_14, sp_lmax, sp_lmin, true_or, or_true, or_false, false_or, or_self, Int32.reduceLT, Int32.reduceLE, Nat.add_zero, Nat.zero_add, Nat.not_lt_zero, not_false_eq_true, not_true_eq_false, and_assoc, kl_q, kl_i, kl_r, kl_n, kl_0, kl_l, cs_0, cs_i, cs_r, cs_n, cs_l, aRf_s, aRf_n, gi_wl, gi_wr, gl_wi, gl_wl, gl_wr, gr_wi, gr_wl, gr_wr, sh_wi, sh_wl, sh_wr, gl_cp, gr_cp, sh_cp, gl_rw, gr_rw, sh_rw, gi_rl, gr_rl, sh_rl, Option.toList_some, Option.toList_none, List.nil_append, List.cons_append, List.append_nil, Option.some.injEq, Prod.mk.injEq, and_true, true_and, and_self, if_true, if_false, reduceCtorEq, Nat.reduceLeDiff, Nat.reduceLT, Nat.reduceAdd, Nat.reduceEqDiff, false_and, and_false, exists_const, exists_eq_left, exists_eq_left', exists_and_left, and_assoc, lc0]
  by_cases hb : b = 0
  · simp [hb, wk]
  · simp [hb, zl64 hb, wk, cl64]
theorem wo6 : AW (d + 2) 191 0 [some (.int 6), some (.long a.toInt64), none, some (.long b.toInt64), none] [] h Q ↔ Q (some (.int (wk 6 a b))) h := by
  simp only [s191_0, s191_1_0, s191_1_1, s191_1_2, s191_1_3, s191_1_4, s191_1_5, s191_1_6, s191_1_7, s191_1_8, s191_52, s191_53, s191_54, s191_55, s191_58, s191_59, s191_60, s191_61, s191_62, s191_65, s191_66, s191_67, s191_68, s191_69, s191_72, s191_73, s191_74, s191_75, s191_76, s191_79, s191_80, s191_83, s191_84, s191_85, s191_86, s191_89, s191_90, s191_91, s191_92, s191_93, s191_96, s191_97, s191_100, s191_101, s191_102, s191_103, s191_104, s191_105, s191_108, s191_109, s191_112, s191_113, s191_114, s191_115, s191_116, s191_117, s191_120, s191_121, s191_124, s191_125, s191_126, s191_127, s191_128, s191_129, s191_132, s191_133, s191_134, s191_135, s191_138, s191_139, s191_142, s191_143, s191_144, s191_145, s191_146, s191_147, s191_150, s191_151, s191_152, s191_153, s191_156, s191_157, s191_160, s191_161, s190_0, s190_3, s190_6, s190_7, s190_10, s190_13, s190_14, sp_lmax, sp_lmin, true_or, or_true, or_false, false_or, or_self, Int32.reduceLT, Int32.reduceLE, Nat.add_zero, Nat.zero_add, Nat.not_lt_zero, not_false_eq_true, not_true_eq_false, and_assoc, kl_q, kl_i, kl_r, kl_n, kl_0, kl_l, cs_0, cs_i, cs_r, cs_n, cs_l, aRf_s, aRf_n, gi_wl, gi_wr, gl_wi, gl_wl, gl_wr, gr_wi, gr_wl, gr_wr, sh_wi, sh_wl, sh_wr, gl_cp, gr_cp, sh_cp, gl_rw, gr_rw, sh_rw, gi_rl, gr_rl, sh_rl, Option.toList_some, Option.toList_none, List.nil_append, List.cons_append, List.append_nil, Option.some.injEq, Prod.mk.injEq, and_true, true_and, and_self, if_true, if_false, reduceCtorEq, Nat.reduceLeDiff, Nat.reduceLT, Nat.reduceAdd, Nat.reduceEqDiff, false_and, and_false, exists_const, exists_eq_left, exists_eq_left', exists_and_left, and_assoc, lce]
  by_cases e : a = b <;> simp [e, wk]
theorem wo7 : AW (d + 2) 191 0 [some (.int 7), some (.long a.toInt64), none, some (.long b.toInt64), none] [] h Q ↔ Q (some (.int (wk 7 a b))) h := by
  simp only [s191_0, s191_1_0, s191_1_1, s191_1_2, s191_1_3, s191_1_4, s191_1_5, s191_1_6, s191_1_7, s191_1_8, s191_52, s191_53, s191_54, s191_55, s191_58, s191_59, s191_60, s191_61, s191_62, s191_65, s191_66, s191_67, s191_68, s191_69, s191_72, s191_73, s191_74, s191_75, s191_76, s191_79, s191_80, s191_83, s191_84, s191_85, s191_86, s191_89, s191_90, s191_91, s191_92, s191_93, s191_96, s191_97, s191_100, s191_101, s191_102, s191_103, s191_104, s191_105, s191_108, s191_109, s191_112, s191_113, s191_114, s191_115, s191_116, s191_117, s191_120, s191_121, s191_124, s191_125, s191_126, s191_127, s191_128, s191_129, s191_132, s191_133, s191_134, s191_135, s191_138, s191_139, s191_142, s191_143, s191_144, s191_145, s191_146, s191_147, s191_150, s191_151, s191_152, s191_153, s191_156, s191_157, s191_160, s191_161, s190_0, s190_3, s190_6, s190_7, s190_10, s190_13, s190_14, sp_lmax, sp_lmin, true_or, or_true, or_false, false_or, or_self, Int32.reduceLT, Int32.reduceLE, Nat.add_zero, Nat.zero_add, Nat.not_lt_zero, not_false_eq_true, not_true_eq_false, and_assoc, kl_q, kl_i, kl_r, kl_n, kl_0, kl_l, cs_0, cs_i, cs_r, cs_n, cs_l, aRf_s, aRf_n, gi_wl, gi_wr, gl_wi, gl_wl, gl_wr, gr_wi, gr_wl, gr_wr, sh_wi, sh_wl, sh_wr, gl_cp, gr_cp, sh_cp, gl_rw, gr_rw, sh_rw, gi_rl, gr_rl, sh_rl, Option.toList_some, Option.toList_none, List.nil_append, List.cons_append, List.append_nil, Option.some.injEq, Prod.mk.injEq, and_true, true_and, and_self, if_true, if_false, reduceCtorEq, Nat.reduceLeDiff, Nat.reduceLT, Nat.reduceAdd, Nat.reduceEqDiff, false_and, and_false, exists_const, exists_eq_left, exists_eq_left', exists_and_left, and_assoc, lcg]
  rw [iflt]
  by_cases e : a < b <;> simp [e, wk]
theorem wo8 : AW (d + 2) 191 0 [some (.int 8), some (.long a.toInt64), none, some (.long b.toInt64), none] [] h Q ↔ Q (some (.int (wk 8 a b))) h := by
  simp only [s191_0, s191_1_0, s191_1_1, s191_1_2, s191_1_3, s191_1_4, s191_1_5, s191_1_6, s191_1_7, s191_1_8, s191_52, s191_53, s191_54, s191_55, s191_58, s191_59, s191_60, s191_61, s191_62, s191_65, s191_66, s191_67, s191_68, s191_69, s191_72, s191_73, s191_74, s191_75, s191_76, s191_79, s191_80, s191_83, s191_84, s191_85, s191_86, s191_89, s191_90, s191_91, s191_92, s191_93, s191_96, s191_97, s191_100, s191_101, s191_102, s191_103, s191_104, s191_105, s191_108, s191_109, s191_112, s191_113, s191_114, s191_115, s191_116, s191_117, s191_120, s191_121, s191_124, s191_125, s191_126, s191_127, s191_128, s191_129, s191_132, s191_133, s191_134, s191_135, s191_138, s191_139, s191_142, s191_143, s191_144, s191_145, s191_146, s191_147, s191_150, s191_151, s191_152, s191_153, s191_156, s191_157, s191_160, s191_161, s190_0, s190_3, s190_6, s190_7, s190_10, s190_13, s190_14, sp_lmax, sp_lmin, true_or, or_true, or_false, false_or, or_self, Int32.reduceLT, Int32.reduceLE, Nat.add_zero, Nat.zero_add, Nat.not_lt_zero, not_false_eq_true, not_true_eq_false, and_assoc, kl_q, kl_i, kl_r, kl_n, kl_0, kl_l, cs_0, cs_i, cs_r, cs_n, cs_l, aRf_s, aRf_n, gi_wl, gi_wr, gl_wi, gl_wl, gl_wr, gr_wi, gr_wl, gr_wr, sh_wi, sh_wl, sh_wr, gl_cp, gr_cp, sh_cp, gl_rw, gr_rw, sh_rw, gi_rl, gr_rl, sh_rl, Option.toList_some, Option.toList_none, List.nil_append, List.cons_append, List.append_nil, Option.some.injEq, Prod.mk.injEq, and_true, true_and, and_self, if_true, if_false, reduceCtorEq, Nat.reduceLeDiff, Nat.reduceLT, Nat.reduceAdd, Nat.reduceEqDiff, false_and, and_false, exists_const, exists_eq_left, exists_eq_left', exists_and_left, and_assoc, lcl]
  rw [iflt]
  by_cases e : b < a <;> simp [e, wk]
theorem wo10 : AW (d + 2) 191 0 [some (.int 10), some (.long a.toInt64), none, some (.long b.toInt64), none] [] h Q ↔ Q (some (.int (wk 10 a b))) h := by
  simp only [s191_0, s191_1_0, s191_1_1, s191_1_2, s191_1_3, s191_1_4, s191_1_5, s191_1_6, s191_1_7, s191_1_8, s191_52, s191_53, s191_54, s191_55, s191_58, s191_59, s191_60, s191_61, s191_62, s191_65, s191_66, s191_67, s191_68, s191_69, s191_72, s191_73, s191_74, s191_75, s191_76, s191_79, s191_80, s191_83, s191_84, s191_85, s191_86, s191_89, s191_90, s191_91, s191_92, s191_93, s191_96, s191_97, s191_100, s191_101, s191_102, s191_103, s191_104, s191_105, s191_108, s191_109, s191_112, s191_113, s191_114, s191_115, s191_116, s191_117, s191_120, s191_121, s191_124, s191_125, s191_126, s191_127, s191_128, s191_129, s191_132, s191_133, s191_134, s191_135, s191_138, s191_139, s191_142, s191_143, s191_144, s191_145, s191_146, s191_147, s191_150, s191_151, s191_152, s191_153, s191_156, s191_157, s191_160, s191_161, s190_0, s190_3, s190_6, s190_7, s190_10, s190_13, s190_14, sp_lmax, sp_lmin, true_or, or_true, or_false, false_or, or_self, Int32.reduceLT, Int32.reduceLE, Nat.add_zero, Nat.zero_add, Nat.not_lt_zero, not_false_eq_true, not_true_eq_false, and_assoc, kl_q, kl_i, kl_r, kl_n, kl_0, kl_l, cs_0, cs_i, cs_r, cs_n, cs_l, aRf_s, aRf_n, gi_wl, gi_wr, gl_wi, gl_wl, gl_wr, gr_wi, gr_wl, gr_wr, sh_wi, sh_wl, sh_wr, gl_cp, gr_cp, sh_cp, gl_rw, gr_rw, sh_rw, gi_rl, gr_rl, sh_rl, Option.toList_some, Option.toList_none, List.nil_append, List.cons_append, List.append_nil, Option.some.injEq, Prod.mk.injEq, and_true, true_and, and_self, if_true, if_false, reduceCtorEq, Nat.reduceLeDiff, Nat.reduceLT, Nat.reduceAdd, Nat.reduceEqDiff, false_and, and_false, exists_const, exists_eq_left, exists_eq_left', exists_and_left, and_assoc, lc0]
  by_cases e : a = 0 <;> by_cases f : b = 0 <;> simp [e, f, wk]
theorem wo11 : AW (d + 2) 191 0 [some (.int 11), some (.long a.toInt64), none, some (.long b.toInt64), none] [] h Q ↔ Q (some (.int (wk 11 a b))) h := by
  have e : (11 : Int32).toInt < 2 ∨ 10 < (11 : Int32).toInt := Or.inr (by decide)
  simp only [s191_0, s191_1_0, s191_1_1, s191_1_2, s191_1_3, s191_1_4, s191_1_5, s191_1_6, s191_1_7, s191_1_8, s191_52, s191_53, s191_54, s191_55, s191_58, s191_59, s191_60, s191_61, s191_62, s191_65, s191_66, s191_67, s191_68, s191_69, s191_72, s191_73, s191_74, s191_75, s191_76, s191_79, s191_80, s191_83, s191_84, s191_85, s191_86, s191_89, s191_90, s191_91, s191_92, s191_93, s191_96, s191_97, s191_100, s191_101, s191_102, s191_103, s191_104, s191_105, s191_108, s191_109, s191_112, s191_113, s191_114, s191_115, s191_116, s191_117, s191_120, s191_121, s191_124, s191_125, s191_126, s191_127, s191_128, s191_129, s191_132, s191_133, s191_134, s191_135, s191_138, s191_139, s191_142, s191_143, s191_144, s191_145, s191_146, s191_147, s191_150, s191_151, s191_152, s191_153, s191_156, s191_157, s191_160, s191_161, s190_0, s190_3, s190_6, s190_7, s190_10, s190_13, s190_14, sp_lmax, sp_lmin, true_or, or_true, or_false, false_or, or_self, Int32.reduceLT, Int32.reduceLE, Nat.add_zero, Nat.zero_add, Nat.not_lt_zero, not_false_eq_true, not_true_eq_false, and_assoc, kl_q, kl_i, kl_r, kl_n, kl_0, kl_l, cs_0, cs_i, cs_r, cs_n, cs_l, aRf_s, aRf_n, gi_wl, gi_wr, gl_wi, gl_wl, gl_wr, gr_wi, gr_wl, gr_wr, sh_wi, sh_wl, sh_wr, gl_cp, gr_cp, sh_cp, gl_rw, gr_rw, sh_rw, gi_rl, gr_rl, sh_rl, Option.toList_some, Option.toList_none, List.nil_append, List.cons_append, List.append_nil, Option.some.injEq, Prod.mk.injEq, and_true, true_and, and_self, if_true, if_false, reduceCtorEq, Nat.reduceLeDiff, Nat.reduceLT, Nat.reduceAdd, Nat.reduceEqDiff, false_and, and_false, exists_const, exists_eq_left, exists_eq_left', exists_and_left, and_assoc, s191_1_d e, lc0]
  by_cases e : a = 0 <;> by_cases f : b = 0 <;> simp [e, f, wk]
end WK
/-- all signs that join two -/
def isOp (c : Int32) : Prop := c = 2 ∨ c = 3 ∨ c = 4 ∨ c = 5 ∨ c = 6 ∨ c = 7 ∨ c = 8 ∨ c = 10 ∨ c = 11
theorem jn_all {d : Nat} {h : aM} {Q : Option Value → aM → Prop} {a b c v : Int32} (hc : isOp c) (h1 : c = 10 ∨ c = 11 → bl a ∧ bl b) (h2 : ¬ (c = 10 ∨ c = 11) → bd a ∧ bd b) : AW d 38 0 [some (.int a), some (.int (encC c v)), some (.int b), none, none] [] h Q ↔ Q (some (.int (wk c a b))) h := by
  rcases hc with rfl | rfl | rfl | rfl | rfl | rfl | rfl | rfl | rfl
  · exact jn2
  · exact jn3
  · exact jn4
  · exact jn5 (h2 (by decide)).1
  · exact jn6
  · exact jn7
  · exact jn8
  · exact jn10 (h1 (by decide)).1 (h1 (by decide)).2
  · exact jn11 (h1 (by decide)).1 (h1 (by decide)).2
theorem wo_all {d : Nat} {h : aM} {Q : Option Value → aM → Prop} {a b c : Int32} (hc : isOp c) : AW (d + 2) 191 0 [some (.int c), some (.long a.toInt64), none, some (.long b.toInt64), none] [] h Q ↔ Q (some (.int (wk c a b))) h := by
  rcases hc with rfl | rfl | rfl | rfl | rfl | rfl | rfl | rfl | rfl
  · exact wo2
  · exact wo3
  · exact wo4
  · exact wo5
  · exact wo6
  · exact wo7
  · exact wo8
  · exact wo10
  · exact wo11
theorem enc_op {c v : Int32} (hc : isOp c) : encC c v ≤ -11 ∧ ¬ encC c v = -20 := by
  rcases hc with rfl | rfl | rfl | rfl | rfl | rfl | rfl | rfl | rfl <;> exact ⟨by simp (decide := true) [encC], by simp (decide := true) [encC]⟩
theorem op_ne {c : Int32} (hc : isOp c) : ¬ c = 0 ∧ ¬ c = 1 ∧ ¬ c = 9 := by
  rcases hc with rfl | rfl | rfl | rfl | rfl | rfl | rfl | rfl | rfl <;> decide
theorem e1a : ∀ l, l < 6 → ¬ (-1 - nI l ≤ -11) := by decide
theorem e1b : ∀ l, l < 6 → -1 - nI l < 0 := by decide
theorem e1c : ∀ l, l < 6 → -1 - (-1 - nI l) = nI l := by decide
