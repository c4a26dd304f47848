-- deps: 24.law
/-! ===== laws: the rows of signs ===== -/
def tkOK (c v : Int32) : Prop := (c = 0 ∧ ∃ n, n ≤ 9999 ∧ v = nI n) ∨ (c = 1 ∧ ∃ l, l < 6 ∧ v = nI l) ∨ c = 2 ∨ c = 3 ∨ c = 4 ∨ c = 5 ∨ c = 6 ∨ c = 7 ∨ c = 8 ∨ c = 9 ∨ c = 10 ∨ c = 11
/-- kinds on the stack: true for what is so or isn't, false for a number -/
def tstep (c : Int32) (s : List Bool) : Option (List Bool) :=
  if c = 0 ∨ c = 1 then (if s.length < 60 then some (false :: s) else none)
  else if c = 9 then (match s with | true :: t => some (true :: t) | _ => none)
  else if c = 10 ∨ c = 11 then (match s with | true :: true :: t => some (true :: t) | _ => none)
  else if c = 6 ∨ c = 7 ∨ c = 8 then (match s with | false :: false :: t => some (true :: t) | _ => none)
  else (match s with | false :: false :: t => some (false :: t) | _ => none)
def tyS (c : Nat → Int32) (s0 : List Bool) : Nat → Option (List Bool)
  | 0 => some s0
  | n + 1 => (tyS c s0 n).bind (tstep (c n))
def estep (lt : Nat → Int32) (c v : Int32) (s : List Int32) : List Int32 :=
  if c = 0 then v :: s else if c = 1 then lt v.toNatClampNeg :: s else if c = 9 then (match s with | x :: t => (1 - x) :: t | [] => [])
  else (match s with | b :: a :: t => wk c a b :: t | _ => s)
def evS (lt : Nat → Int32) (c v : Nat → Int32) : Nat → List Int32
  | 0 => []
  | n + 1 => estep lt (c n) (v n) (evS lt c v n)
def TyV : List Bool → List Int32 → Prop
  | [], [] => True
  | true :: t, x :: s => bl x ∧ TyV t s
  | false :: t, x :: s => bd x ∧ TyV t s
  | _, _ => False
def stkA (f : Nat → Int32) : List Int32 → Prop
  | [] => True
  | x :: t => f t.length = x ∧ stkA f t
theorem stkA_up {f : Nat → Int32} {k : Nat} {x : Int32} : ∀ {s : List Int32}, stkA f s → s.length ≤ k → stkA (fun j => if j = k then x else f j) s
  | [], _, _ => trivial
  | y :: t, ⟨h1, h2⟩, hk => by
    simp only [List.length_cons] at hk
    refine ⟨?_, stkA_up h2 (by omega)⟩
    show (if t.length = k then x else f t.length) = y
    rw [if_neg (by omega)]
    exact h1
theorem TyV_len : ∀ {t : List Bool} {s : List Int32}, TyV t s → t.length = s.length
  | [], [], _ => rfl
  | [], _ :: _, h => h.elim
  | true :: _, [], h => h.elim
  | false :: _, [], h => h.elim
  | true :: _, _ :: _, h => by
    simp only [List.length_cons]
    rw [TyV_len h.2]
  | false :: _, _ :: _, h => by
    simp only [List.length_cons]
    rw [TyV_len h.2]
theorem bd_wk {c a b : Int32} (hc : c = 2 ∨ c = 3 ∨ c = 4 ∨ c = 5) : bd (wk c a b) := by
  have h0 : bd 0 := ⟨by decide, by decide⟩
  rcases hc with rfl | rfl | rfl | rfl
  · exact cl_bd _
  · exact cl_bd _
  · exact cl_bd _
  · show bd (if b = 0 then 0 else cl64 (a.toInt64 / b.toInt64))
    split
    · exact h0
    · exact cl_bd _
theorem bl_ite {p : Prop} [Decidable p] : bl (if p then 1 else 0) := by
  split
  · exact Or.inr rfl
  · exact Or.inl rfl
theorem bl_wk {c a b : Int32} (hc : c = 6 ∨ c = 7 ∨ c = 8 ∨ c = 10 ∨ c = 11) : bl (wk c a b) := by
  rcases hc with rfl | rfl | rfl | rfl | rfl
  · exact bl_ite (p := a = b)
  · exact bl_ite (p := a < b)
  · exact bl_ite (p := b < a)
  · show bl (if a = 0 then 0 else if b = 0 then 0 else 1)
    split
    · exact Or.inl rfl
    · split
      · exact Or.inl rfl
      · exact Or.inr rfl
  · show bl (if a = 0 then (if b = 0 then 0 else 1) else 1)
    split
    · split
      · exact Or.inl rfl
      · exact Or.inr rfl
    · exact Or.inr rfl
/-- one sign: kinds and numbers go together -/
theorem ty_step {lt : Nat → Int32} {c v : Int32} {ts ts' : List Bool} {s : List Int32} (hlt : ∀ l, l < 6 → bd (lt l)) (htk : tkOK c v) (h1 : tstep c ts = some ts') (h2 : TyV ts s) : TyV ts' (estep lt c v s) := by
  rcases htk with ⟨rfl, n, hn, rfl⟩ | ⟨rfl, l, hl, rfl⟩ | h | h | h | h | h | h | h | h | h | h
  · simp only [tstep, true_or, if_true] at h1
    split at h1
    · cases h1
      refine ⟨?_, h2⟩
      unfold bd
      rw [nI_toInt (by omega)]
      omega
    · cases h1
  · simp only [tstep, or_true, if_true] at h1
    split at h1
    · cases h1
      refine ⟨?_, h2⟩
      rw [nI_clamp (by omega)]
      exact hlt l hl
    · cases h1
  all_goals
    subst h
    simp only [tstep] at h1
    simp (decide := true) only [if_false, if_true] at h1
    split at h1
    · cases h1
      first
        | (match s, h2 with
           | x :: t, h2 =>
             refine ⟨?_, h2.2⟩
             rcases h2.1 with rfl | rfl
             · exact Or.inr rfl
             · exact Or.inl rfl)
        | (match s, h2 with
           | b :: a :: t, h2 =>
             first
               | exact ⟨bd_wk (by decide), h2.2.2⟩
               | exact ⟨bl_wk (by decide), h2.2.2⟩)
    · cases h1
theorem tyS_le {c : Nat → Int32} {s0 r : List Bool} : ∀ {n : Nat}, tyS c s0 n = some r → ∀ j, j ≤ n → ∃ ts, tyS c s0 j = some ts
  | 0, h, j, hj => by
    have : j = 0 := by omega
    subst this
    exact ⟨_, h⟩
  | n + 1, h, j, hj => by
    by_cases e : j = n + 1
    · subst e
      exact ⟨_, h⟩
    · simp only [tyS] at h
      cases h2 : tyS c s0 n with
      | none => simp [h2] at h
      | some q => exact tyS_le h2 j (by omega)
theorem tstep_len {c : Int32} {s s' : List Bool} (h : tstep c s = some s') (hs : s.length ≤ 60) : s'.length ≤ 60 := by
  unfold tstep at h
  (repeat' split at h) <;> first
    | (cases h; done)
    | (cases h; simp only [List.length_cons] at *; omega)
/-- what stands on the stack ahead of a sign -/
theorem sh_bin {c : Int32} {ts ts' : List Bool} {s : List Int32} (hc : isOp c) (h : tstep c ts = some ts') (hv : TyV ts s) : ∃ a b t, s = b :: a :: t ∧ (c = 10 ∨ c = 11 → bl a ∧ bl b) ∧ (¬ (c = 10 ∨ c = 11) → bd a ∧ bd b) := by
  rcases hc with rfl | rfl | rfl | rfl | rfl | rfl | rfl | rfl | rfl <;>
  (simp only [tstep] at h
   simp (decide := true) only [if_false, if_true] at h
   split at h
   · match s, hv with
     | b :: a :: t, hv => exact ⟨a, b, t, rfl, by simp (decide := true) [hv.1, hv.2.1], by simp (decide := true) [hv.1, hv.2.1]⟩
   · cases h)
theorem sh_not {ts ts' : List Bool} {s : List Int32} (h : tstep 9 ts = some ts') (hv : TyV ts s) : ∃ x t, s = x :: t ∧ bl x := by
  simp only [tstep] at h
  simp (decide := true) only [if_false, if_true] at h
  split at h
  · match s, hv with
    | x :: t, hv => exact ⟨x, t, rfl, hv.1⟩
  · cases h
theorem sh_num {c : Int32} {ts ts' : List Bool} (hc : c = 0 ∨ c = 1) (h : tstep c ts = some ts') : ts.length < 60 := by
  simp only [tstep, hc, if_true] at h
  split at h
  · assumption
  · cases h
theorem tk_cases {c v : Int32} (h : tkOK c v) : (c = 0 ∧ ∃ n, n ≤ 9999 ∧ v = nI n) ∨ (c = 1 ∧ ∃ l, l < 6 ∧ v = nI l) ∨ c = 9 ∨ isOp c := by
  unfold isOp
  rcases h with h | h | h | h | h | h | h | h | h | h | h | h <;> simp [h]
theorem cw_work {d : Nat} {h : aM} {Q : Option Value → aM → Prop} {i p0 n : Nat} {c v lt : Nat → Int32} {ty : Bool} {x : Int32} (ok : OK h) (hi : i < 4) (hb : p0 + n ≤ 240) (hc : ∀ p, p < n → gi h (376 + 6 * i) (p0 + p) = encC (c p) (v p) ∧ tkOK (c p) (v p))
    (ht : tyS c [] n = some [ty]) (hl : ∀ l, l < 6 → gi h (379 + 6 * i) l = lt l) (hlt : ∀ l, l < 6 → bd (lt l)) (hx : evS lt c v n = [x]) (hq : ∀ f, Q (some (.int x)) (aRw h (380 + 6 * i) f)) :
    AW (d + 1) 36 0 [some (.ref (375 + 6 * i)), some (.int (nI p0)), some (.int (nI (p0 + n))), none, none, none] [] h Q := by
  simp only [s36_0, s36_1, s36_2, s36_3, s36_7, s36_8, s36_11, s36_12, s36_15, s36_17, s36_18, s36_20, s36_22, s36_24, s36_27, s36_28, s36_30, s36_33, s36_34, s36_37, s36_38, s36_40, s36_43, s36_45, s36_48, s36_49, s36_50, s36_52, s36_53, s36_56, s36_57, s36_60, s36_63, s36_65, s36_67, s36_70, s36_71, s36_74, s36_75, s36_78, s36_79, s36_80, s36_81, s36_82, s36_85, s36_86, s36_87, s36_88, s36_89, s36_92, s36_93, s36_96, s36_97, s36_98, s36_101, s36_102, s36_103, s36_106, s36_109, s36_110, s36_113, s36_114, s36_115, s36_116, s36_117, s36_120, s36_121, s36_122, s36_123, s36_124, s36_126, s36_127, s36_130, s36_131, s36_132, s36_135, s36_136, s36_139, s36_142, s36_143, s36_146, s36_147, s36_150, s36_151, s36_152, s36_155, s36_156, true_or, or_true, or_false, false_or, or_self, Int32.reduceLT, Int32.reduceLE, Nat.add_zero, Nat.zero_add, Nat.not_lt_zero, not_false_eq_true, not_true_eq_false, and_assoc, kl_q, kl_i, kl_r, kl_n, kl_0, kl_l, cs_0, cs_i, cs_r, cs_n, cs_l, aRf_s, aRf_n, gi_wl, gi_wr, gl_wi, gl_wl, gl_wr, gr_wi, gr_wl, gr_wr, sh_wi, sh_wl, sh_wr, gl_cp, gr_cp, sh_cp, gl_rw, gr_rw, sh_rw, gi_rl, gr_rl, sh_rl, Option.toList_some, Option.toList_none, List.nil_append, List.cons_append, List.append_nil, Option.some.injEq, Prod.mk.injEq, and_true, true_and, and_self, if_true, if_false, reduceCtorEq, Nat.reduceLeDiff, Nat.reduceLT, Nat.reduceAdd, Nat.reduceEqDiff, false_and, and_false, exists_const, exists_eq_left, exists_eq_left', exists_and_left, and_assoc]
  refine aLoop n (fun j lv h' => ∃ w f ts, lv = [some (.ref (375 + 6 * i)), some (.int (nI p0)), some (.int (nI (p0 + n))), some (.int (nI (evS lt c v j).length)), some (.int (nI (p0 + j))), w] ∧ h' = aRw h (380 + 6 * i) f ∧ tyS c [] j = some ts ∧ TyV ts (evS lt c v j) ∧ ts.length ≤ 60 ∧ stkA f (evS lt c v j)) ?_ ?_ 0 _ _ (Nat.zero_le _) ⟨none, gi h (380 + 6 * i), [], rfl, ?_, rfl, trivial, Nat.zero_le _, trivial⟩
  · rintro j lv h' hj ⟨w, f, ts, rfl, rfl, h1, h2, h3, h4⟩ hk
    obtain ⟨hc1, hc2⟩ := hc j hj
    obtain ⟨ts', h5⟩ := tyS_le ht (j + 1) (by omega)
    have h6 : tstep (c j) ts = some ts' := by simpa [tyS, h1] using h5
    have h7 := ty_step hlt hc2 h6 h2
    have h8 := tstep_len h6 h3
    have hk' : ∀ w f', stkA f' (estep lt (c j) (v j) (evS lt c v j)) → AW (d + 1) 36 5 [some (.ref (375 + 6 * i)), some (.int (nI p0)), some (.int (nI (p0 + n))), some (.int (nI (estep lt (c j) (v j) (evS lt c v j)).length)), some (.int (nI (p0 + j + 1))), w] [] (aRw h (380 + 6 * i) f') Q := fun w f' hs => hk _ _ ⟨w, f', ts', rfl, rfl, h5, h7, h8, hs⟩
    clear hk hx h5 ht h1 hc hq
    generalize evS lt c v j = s at *
    generalize c j = cc at *
    generalize v j = vv at *
    have hlen := TyV_len h2
    have e9 : ¬ p0 + n ≤ p0 + j := by omega
    have e10 : p0 + j < 240 := by omega
    rcases tk_cases hc2 with ⟨rfl, m, hm, rfl⟩ | ⟨rfl, l, hll, rfl⟩ | rfl | hop
    · have h9 := sh_num (Or.inl rfl) h6
      have e11 : ¬ nI m ≤ -11 := by
        rw [lei, nI_toInt (by omega)]
        have : (-11 : Int32).toInt = -11 := rfl
        omega
      rw [s36_5]
      simp (disch := omega) only [s36_0, s36_1, s36_2, s36_3, s36_7, s36_8, s36_11, s36_12, s36_15, s36_17, s36_18, s36_20, s36_22, s36_24, s36_27, s36_28, s36_30, s36_33, s36_34, s36_37, s36_38, s36_40, s36_43, s36_45, s36_48, s36_49, s36_50, s36_52, s36_53, s36_56, s36_57, s36_60, s36_63, s36_65, s36_67, s36_70, s36_71, s36_74, s36_75, s36_78, s36_79, s36_80, s36_81, s36_82, s36_85, s36_86, s36_87, s36_88, s36_89, s36_92, s36_93, s36_96, s36_97, s36_98, s36_101, s36_102, s36_103, s36_106, s36_109, s36_110, s36_113, s36_114, s36_115, s36_116, s36_117, s36_120, s36_121, s36_122, s36_123, s36_124, s36_126, s36_127, s36_130, s36_131, s36_132, s36_135, s36_136, s36_139, s36_142, s36_143, s36_146, s36_147, s36_150, s36_151, s36_152, s36_155, s36_156, true_or, or_true, or_false, false_or, or_self, Int32.reduceLT, Int32.reduceLE, Nat.add_zero, Nat.zero_add, Nat.not_lt_zero, not_false_eq_true, not_true_eq_false, and_assoc, kl_q, kl_i, kl_r, kl_n, kl_0, kl_l, cs_0, cs_i, cs_r, cs_n, cs_l, aRf_s, aRf_n, gi_wl, gi_wr, gl_wi, gl_wl, gl_wr, gr_wi, gr_wl, gr_wr, sh_wi, sh_wl, sh_wr, gl_cp, gr_cp, sh_cp, gl_rw, gr_rw, sh_rw, gi_rl, gr_rl, sh_rl, Option.toList_some, Option.toList_none, List.nil_append, List.cons_append, List.append_nil, Option.some.injEq, Prod.mk.injEq, and_true, true_and, and_self, if_true, if_false, reduceCtorEq, Nat.reduceLeDiff, Nat.reduceLT, Nat.reduceAdd, Nat.reduceEqDiff, false_and, and_false, exists_const, exists_eq_left, exists_eq_left', exists_and_left, and_assoc, nltL, nltR, nleL, nleR, neqL, neqR, naL, naR, nmL, nmR, nI_ltI, nI_leI, nI_eq, nI_add, nI_mul, nI_clamp, n0l, n0r, nm1, nm1', nm1l, nm1r, nm1g, nsL, nI_m1, Nat.add_sub_cancel, vpn, vpL, nclL, le32, leLL, leLN, leNL, leNN, inA, nb0, nb1, gi_wi_n, gi_wi_e, gi_rw_n, gi_rw_e, aWi_rw, q375 ok hi, g375_0 ok hi, q376 ok hi, g375_5 ok hi, q379 ok hi, g375_6 ok hi, q380 ok hi, hc1, e9, e10, encC, e11]
      rw [if_neg (by omega)]
      (repeat refine And.intro (by omega) ?_)
      exact hk' _ _ ⟨if_pos rfl, stkA_up h4 (Nat.le_refl _)⟩
    · have h9 := sh_num (Or.inr rfl) h6
      rw [s36_5]
      simp (disch := omega) only [s36_0, s36_1, s36_2, s36_3, s36_7, s36_8, s36_11, s36_12, s36_15, s36_17, s36_18, s36_20, s36_22, s36_24, s36_27, s36_28, s36_30, s36_33, s36_34, s36_37, s36_38, s36_40, s36_43, s36_45, s36_48, s36_49, s36_50, s36_52, s36_53, s36_56, s36_57, s36_60, s36_63, s36_65, s36_67, s36_70, s36_71, s36_74, s36_75, s36_78, s36_79, s36_80, s36_81, s36_82, s36_85, s36_86, s36_87, s36_88, s36_89, s36_92, s36_93, s36_96, s36_97, s36_98, s36_101, s36_102, s36_103, s36_106, s36_109, s36_110, s36_113, s36_114, s36_115, s36_116, s36_117, s36_120, s36_121, s36_122, s36_123, s36_124, s36_126, s36_127, s36_130, s36_131, s36_132, s36_135, s36_136, s36_139, s36_142, s36_143, s36_146, s36_147, s36_150, s36_151, s36_152, s36_155, s36_156, s37_0, s37_1, s37_2, s37_5, s37_6, s37_9, s37_10, s37_13, s37_14, s37_15, s37_18, s37_19, true_or, or_true, or_false, false_or, or_self, Int32.reduceLT, Int32.reduceLE, Nat.add_zero, Nat.zero_add, Nat.not_lt_zero, not_false_eq_true, not_true_eq_false, and_assoc, kl_q, kl_i, kl_r, kl_n, kl_0, kl_l, cs_0, cs_i, cs_r, cs_n, cs_l, aRf_s, aRf_n, gi_wl, gi_wr, gl_wi, gl_wl, gl_wr, gr_wi, gr_wl, gr_wr, sh_wi, sh_wl, sh_wr, gl_cp, gr_cp, sh_cp, gl_rw, gr_rw, sh_rw, gi_rl, gr_rl, sh_rl, Option.toList_some, Option.toList_none, List.nil_append, List.cons_append, List.append_nil, Option.some.injEq, Prod.mk.injEq, and_true, true_and, and_self, if_true, if_false, reduceCtorEq, Nat.reduceLeDiff, Nat.reduceLT, Nat.reduceAdd, Nat.reduceEqDiff, false_and, and_false, exists_const, exists_eq_left, exists_eq_left', exists_and_left, and_assoc, nltL, nltR, nleL, nleR, neqL, neqR, naL, naR, nmL, nmR, nI_ltI, nI_leI, nI_eq, nI_add, nI_mul, nI_clamp, n0l, n0r, nm1, nm1', nm1l, nm1r, nm1g, nsL, nI_m1, Nat.add_sub_cancel, vpn, vpL, nclL, le32, leLL, leLN, leNL, leNN, inA, nb0, nb1, gi_wi_n, gi_wi_e, gi_rw_n, gi_rw_e, aWi_rw, q375 ok hi, g375_0 ok hi, q376 ok hi, g375_5 ok hi, q379 ok hi, g375_6 ok hi, q380 ok hi, hc1, e9, e10, encC, e1a l hll, e1b l hll, e1c l hll, hl l hll, show ¬ (1 : Int32) = 0 by decide]
      rw [if_neg (by omega), if_neg (by omega)]
      rw [show estep lt 1 (nI l) s = lt l :: s by simp (disch := omega) [estep, nI_clamp]] at hk'
      (repeat refine And.intro (by omega) ?_)
      exact hk' _ _ ⟨if_pos rfl, stkA_up h4 (Nat.le_refl _)⟩
    · obtain ⟨x, t, rfl, hxb⟩ := sh_not h6 h2
      simp only [List.length_cons] at *
      rw [s36_5]
      simp (disch := omega) only [s36_0, s36_1, s36_2, s36_3, s36_7, s36_8, s36_11, s36_12, s36_15, s36_17, s36_18, s36_20, s36_22, s36_24, s36_27, s36_28, s36_30, s36_33, s36_34, s36_37, s36_38, s36_40, s36_43, s36_45, s36_48, s36_49, s36_50, s36_52, s36_53, s36_56, s36_57, s36_60, s36_63, s36_65, s36_67, s36_70, s36_71, s36_74, s36_75, s36_78, s36_79, s36_80, s36_81, s36_82, s36_85, s36_86, s36_87, s36_88, s36_89, s36_92, s36_93, s36_96, s36_97, s36_98, s36_101, s36_102, s36_103, s36_106, s36_109, s36_110, s36_113, s36_114, s36_115, s36_116, s36_117, s36_120, s36_121, s36_122, s36_123, s36_124, s36_126, s36_127, s36_130, s36_131, s36_132, s36_135, s36_136, s36_139, s36_142, s36_143, s36_146, s36_147, s36_150, s36_151, s36_152, s36_155, s36_156, s37_0, s37_1, s37_2, s37_5, s37_6, s37_9, s37_10, s37_13, s37_14, s37_15, s37_18, s37_19, true_or, or_true, or_false, false_or, or_self, Int32.reduceLT, Int32.reduceLE, Nat.add_zero, Nat.zero_add, Nat.not_lt_zero, not_false_eq_true, not_true_eq_false, and_assoc, kl_q, kl_i, kl_r, kl_n, kl_0, kl_l, cs_0, cs_i, cs_r, cs_n, cs_l, aRf_s, aRf_n, gi_wl, gi_wr, gl_wi, gl_wl, gl_wr, gr_wi, gr_wl, gr_wr, sh_wi, sh_wl, sh_wr, gl_cp, gr_cp, sh_cp, gl_rw, gr_rw, sh_rw, gi_rl, gr_rl, sh_rl, Option.toList_some, Option.toList_none, List.nil_append, List.cons_append, List.append_nil, Option.some.injEq, Prod.mk.injEq, and_true, true_and, and_self, if_true, if_false, reduceCtorEq, Nat.reduceLeDiff, Nat.reduceLT, Nat.reduceAdd, Nat.reduceEqDiff, false_and, and_false, exists_const, exists_eq_left, exists_eq_left', exists_and_left, and_assoc, nltL, nltR, nleL, nleR, neqL, neqR, naL, naR, nmL, nmR, nI_ltI, nI_leI, nI_eq, nI_add, nI_mul, nI_clamp, n0l, n0r, nm1, nm1', nm1l, nm1r, nm1g, nsL, nI_m1, Nat.add_sub_cancel, vpn, vpL, nclL, le32, leLL, leLN, leNL, leNN, inA, nb0, nb1, gi_wi_n, gi_wi_e, gi_rw_n, gi_rw_e, aWi_rw, q375 ok hi, g375_0 ok hi, q376 ok hi, g375_5 ok hi, q379 ok hi, g375_6 ok hi, q380 ok hi, hc1, e9, e10, show encC 9 vv = -20 from rfl, show (-20 : Int32) ≤ -11 by decide]
      rw [show estep lt 9 vv (x :: t) = (1 - x) :: t by simp (decide := true) [estep]] at hk'
      rw [show f t.length = x from h4.1]
      refine ⟨by omega, ?_⟩
      rcases hxb with rfl | rfl
      · rw [if_neg (by decide)]
        (repeat refine And.intro (by omega) ?_)
        exact hk' _ _ ⟨if_pos rfl, stkA_up h4.2 (Nat.le_refl _)⟩
      · rw [if_pos (by decide)]
        (repeat refine And.intro (by omega) ?_)
        exact hk' _ _ ⟨if_pos rfl, stkA_up h4.2 (Nat.le_refl _)⟩
    · obtain ⟨a, b, t, rfl, hab, hab'⟩ := sh_bin hop h6 h2
      simp only [List.length_cons] at *
      have e12 := enc_op (v := vv) hop
      rw [s36_5]
      simp (disch := omega) only [s36_0, s36_1, s36_2, s36_3, s36_7, s36_8, s36_11, s36_12, s36_15, s36_17, s36_18, s36_20, s36_22, s36_24, s36_27, s36_28, s36_30, s36_33, s36_34, s36_37, s36_38, s36_40, s36_43, s36_45, s36_48, s36_49, s36_50, s36_52, s36_53, s36_56, s36_57, s36_60, s36_63, s36_65, s36_67, s36_70, s36_71, s36_74, s36_75, s36_78, s36_79, s36_80, s36_81, s36_82, s36_85, s36_86, s36_87, s36_88, s36_89, s36_92, s36_93, s36_96, s36_97, s36_98, s36_101, s36_102, s36_103, s36_106, s36_109, s36_110, s36_113, s36_114, s36_115, s36_116, s36_117, s36_120, s36_121, s36_122, s36_123, s36_124, s36_126, s36_127, s36_130, s36_131, s36_132, s36_135, s36_136, s36_139, s36_142, s36_143, s36_146, s36_147, s36_150, s36_151, s36_152, s36_155, s36_156, s37_0, s37_1, s37_2, s37_5, s37_6, s37_9, s37_10, s37_13, s37_14, s37_15, s37_18, s37_19, true_or, or_true, or_false, false_or, or_self, Int32.reduceLT, Int32.reduceLE, Nat.add_zero, Nat.zero_add, Nat.not_lt_zero, not_false_eq_true, not_true_eq_false, and_assoc, kl_q, kl_i, kl_r, kl_n, kl_0, kl_l, cs_0, cs_i, cs_r, cs_n, cs_l, aRf_s, aRf_n, gi_wl, gi_wr, gl_wi, gl_wl, gl_wr, gr_wi, gr_wl, gr_wr, sh_wi, sh_wl, sh_wr, gl_cp, gr_cp, sh_cp, gl_rw, gr_rw, sh_rw, gi_rl, gr_rl, sh_rl, Option.toList_some, Option.toList_none, List.nil_append, List.cons_append, List.append_nil, Option.some.injEq, Prod.mk.injEq, and_true, true_and, and_self, if_true, if_false, reduceCtorEq, Nat.reduceLeDiff, Nat.reduceLT, Nat.reduceAdd, Nat.reduceEqDiff, false_and, and_false, exists_const, exists_eq_left, exists_eq_left', exists_and_left, and_assoc, nltL, nltR, nleL, nleR, neqL, neqR, naL, naR, nmL, nmR, nI_ltI, nI_leI, nI_eq, nI_add, nI_mul, nI_clamp, n0l, n0r, nm1, nm1', nm1l, nm1r, nm1g, nsL, nI_m1, Nat.add_sub_cancel, vpn, vpL, nclL, le32, leLL, leLN, leNL, leNN, inA, nb0, nb1, gi_wi_n, gi_wi_e, gi_rw_n, gi_rw_e, aWi_rw, q375 ok hi, g375_0 ok hi, q376 ok hi, g375_5 ok hi, q379 ok hi, g375_6 ok hi, q380 ok hi, hc1, e9, e10, e12]
      rw [show f (t.length + 1) = b from h4.1, show f t.length = a from h4.2.1, jn_all hop hab hab']
      have e13 := op_ne hop
      rw [show estep lt cc vv (b :: a :: t) = wk cc a b :: t by simp [estep, e13]] at hk'
      simp (disch := omega) only [s36_0, s36_1, s36_2, s36_3, s36_7, s36_8, s36_11, s36_12, s36_15, s36_17, s36_18, s36_20, s36_22, s36_24, s36_27, s36_28, s36_30, s36_33, s36_34, s36_37, s36_38, s36_40, s36_43, s36_45, s36_48, s36_49, s36_50, s36_52, s36_53, s36_56, s36_57, s36_60, s36_63, s36_65, s36_67, s36_70, s36_71, s36_74, s36_75, s36_78, s36_79, s36_80, s36_81, s36_82, s36_85, s36_86, s36_87, s36_88, s36_89, s36_92, s36_93, s36_96, s36_97, s36_98, s36_101, s36_102, s36_103, s36_106, s36_109, s36_110, s36_113, s36_114, s36_115, s36_116, s36_117, s36_120, s36_121, s36_122, s36_123, s36_124, s36_126, s36_127, s36_130, s36_131, s36_132, s36_135, s36_136, s36_139, s36_142, s36_143, s36_146, s36_147, s36_150, s36_151, s36_152, s36_155, s36_156, true_or, or_true, or_false, false_or, or_self, Int32.reduceLT, Int32.reduceLE, Nat.add_zero, Nat.zero_add, Nat.not_lt_zero, not_false_eq_true, not_true_eq_false, and_assoc, kl_q, kl_i, kl_r, kl_n, kl_0, kl_l, cs_0, cs_i, cs_r, cs_n, cs_l, aRf_s, aRf_n, gi_wl, gi_wr, gl_wi, gl_wl, gl_wr, gr_wi, gr_wl, gr_wr, sh_wi, sh_wl, sh_wr, gl_cp, gr_cp, sh_cp, gl_rw, gr_rw, sh_rw, gi_rl, gr_rl, sh_rl, Option.toList_some, Option.toList_none, List.nil_append, List.cons_append, List.append_nil, Option.some.injEq, Prod.mk.injEq, and_true, true_and, and_self, if_true, if_false, reduceCtorEq, Nat.reduceLeDiff, Nat.reduceLT, Nat.reduceAdd, Nat.reduceEqDiff, false_and, and_false, exists_const, exists_eq_left, exists_eq_left', exists_and_left, and_assoc, nltL, nltR, nleL, nleR, neqL, neqR, naL, naR, nmL, nmR, nI_ltI, nI_leI, nI_eq, nI_add, nI_mul, nI_clamp, n0l, n0r, nm1, nm1', nm1l, nm1r, nm1g, nsL, nI_m1, Nat.add_sub_cancel, vpn, vpL, nclL, le32, leLL, leLN, leNL, leNN, inA, nb0, nb1, gi_wi_n, gi_wi_e, gi_rw_n, gi_rw_e, aWi_rw, q380 ok hi]
      (repeat refine And.intro (by omega) ?_)
      exact hk' _ _ ⟨if_pos rfl, stkA_up h4.2.2 (Nat.le_refl _)⟩
  · rintro lv h' ⟨w, f, ts, rfl, rfl, h1, h2, h3, h4⟩
    rw [s36_5]
    simp (disch := omega) only [s36_0, s36_1, s36_2, s36_3, s36_7, s36_8, s36_11, s36_12, s36_15, s36_17, s36_18, s36_20, s36_22, s36_24, s36_27, s36_28, s36_30, s36_33, s36_34, s36_37, s36_38, s36_40, s36_43, s36_45, s36_48, s36_49, s36_50, s36_52, s36_53, s36_56, s36_57, s36_60, s36_63, s36_65, s36_67, s36_70, s36_71, s36_74, s36_75, s36_78, s36_79, s36_80, s36_81, s36_82, s36_85, s36_86, s36_87, s36_88, s36_89, s36_92, s36_93, s36_96, s36_97, s36_98, s36_101, s36_102, s36_103, s36_106, s36_109, s36_110, s36_113, s36_114, s36_115, s36_116, s36_117, s36_120, s36_121, s36_122, s36_123, s36_124, s36_126, s36_127, s36_130, s36_131, s36_132, s36_135, s36_136, s36_139, s36_142, s36_143, s36_146, s36_147, s36_150, s36_151, s36_152, s36_155, s36_156, true_or, or_true, or_false, false_or, or_self, Int32.reduceLT, Int32.reduceLE, Nat.add_zero, Nat.zero_add, Nat.not_lt_zero, not_false_eq_true, not_true_eq_false, and_assoc, kl_q, kl_i, kl_r, kl_n, kl_0, kl_l, cs_0, cs_i, cs_r, cs_n, cs_l, aRf_s, aRf_n, gi_wl, gi_wr, gl_wi, gl_wl, gl_wr, gr_wi, gr_wl, gr_wr, sh_wi, sh_wl, sh_wr, gl_cp, gr_cp, sh_cp, gl_rw, gr_rw, sh_rw, gi_rl, gr_rl, sh_rl, Option.toList_some, Option.toList_none, List.nil_append, List.cons_append, List.append_nil, Option.some.injEq, Prod.mk.injEq, and_true, true_and, and_self, if_true, if_false, reduceCtorEq, Nat.reduceLeDiff, Nat.reduceLT, Nat.reduceAdd, Nat.reduceEqDiff, false_and, and_false, exists_const, exists_eq_left, exists_eq_left', exists_and_left, and_assoc, nltL, nltR, nleL, nleR, neqL, neqR, naL, naR, nmL, nmR, nI_ltI, nI_leI, nI_eq, nI_add, nI_mul, nI_clamp, n0l, n0r, nm1, nm1', nm1l, nm1r, nm1g, nsL, nI_m1, Nat.add_sub_cancel, vpn, vpL, nclL, le32, leLL, leLN, leNL, leNN, inA, nb0, nb1, gi_wi_n, gi_wi_e, gi_rw_n, gi_rw_e, aWi_rw, Nat.le_refl, q375 ok hi, g375_6 ok hi, q380 ok hi, hx, List.length_cons, List.length_nil]
    rw [hx] at h4
    rw [show f 0 = x from h4.1]
    exact hq f
  · rw [aRw_0]
