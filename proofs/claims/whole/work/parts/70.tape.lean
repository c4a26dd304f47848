-- deps: 69.str
/-! ===== the tape, for both readers ===== -/
def skf (B : Nat → Nat) (T : Nat) : Nat → Nat → Nat
  | 0, p => p
  | n + 1, p => if p < T ∧ B p = 32 then skf B T n (p + 1) else p
def sk (B : Nat → Nat) (T p : Nat) : Nat := skf B T (T - p) p
def lkI (B : Nat → Nat) (T p : Nat) : Int32 := if p < T then nI (B p) else -1
def isD (b : Nat) : Bool := decide (48 ≤ b ∧ b ≤ 57)
def dgc (B : Nat → Nat) (T : Nat) : Nat → Nat → Nat
  | _, 0 => 0
  | q, n + 1 => if q < T ∧ isD (B q) = true then dgc B T (q + 1) n + 1 else 0
def vlD (B : Nat → Nat) (q : Nat) : Nat → Nat
  | 0 => 0
  | k + 1 => 10 * vlD B q k + (B (q + k) - 48)
section T1
variable {d : Nat} {g h : aM} {Q : Option Value → aM → Prop} {B : Nat → Nat} {T p q : Nat}
theorem sk_i (h : ¬ (p < T ∧ B p = 32)) : sk B T p = p := by
  unfold sk
  cases T - p with
  | zero => rfl
  | succ n => rw [skf, if_neg h]
theorem sk_s (h : p < T ∧ B p = 32) : sk B T p = sk B T (p + 1) := by
  unfold sk
  rw [show T - p = (T - (p + 1)) + 1 by omega, skf, if_pos h]
theorem sk_p : ∀ n p, T - p = n → p ≤ T → p ≤ sk B T p ∧ sk B T p ≤ T ∧ ¬ (sk B T p < T ∧ B (sk B T p) = 32)
  | 0, p, e, hp => by
    have : ¬ (p < T ∧ B p = 32) := by omega
    rw [sk_i this]
    exact ⟨Nat.le_refl _, hp, this⟩
  | n + 1, p, e, hp => by
    by_cases h : p < T ∧ B p = 32
    · rw [sk_s h]
      obtain ⟨a, b, c⟩ := sk_p n (p + 1) (by omega) (by omega)
      exact ⟨by omega, b, c⟩
    · rw [sk_i h]
      exact ⟨Nat.le_refl _, hp, h⟩
theorem sk_le (hp : p ≤ T) : p ≤ sk B T p ∧ sk B T p ≤ T := ⟨(sk_p _ p rfl hp).1, (sk_p _ p rfl hp).2.1⟩
theorem sk_sk (hp : p ≤ T) : sk B T (sk B T p) = sk B T p := sk_i (sk_p _ p rfl hp).2.2
theorem dgc_le : ∀ n q, dgc B T q n ≤ n
  | 0, q => Nat.le_refl _
  | n + 1, q => by
    have := dgc_le n (q + 1)
    rw [dgc]
    split <;> omega
theorem dgc_T : ∀ n q, q ≤ T → q + dgc B T q n ≤ T
  | 0, q, h => h
  | n + 1, q, h => by
    rw [dgc]
    split
    · next h1 =>
      have := dgc_T n (q + 1) h1.1
      omega
    · exact h
/-- what holds of the tape of the class, of the reference -/
def TpC (h : aM) (B : Nat → Nat) (T : Nat) : Prop := OK h ∧ T ≤ 240 ∧ gi h 33 1 = nI T ∧ (∀ i, i < T → gi h 34 i = nI (B i)) ∧ ∀ i, i < T → B i < 256
def TpM (h : aM) (B : Nat → Nat) (T : Nat) : Prop := OK h ∧ T ≤ 240 ∧ gi h 399 2 = nI T ∧ (∀ i, i < T → gi h 400 i = nI (B i)) ∧ ∀ i, i < T → B i < 256
def AtZ (a k : Nat) : Prop := a = 33 ∧ (k = 2 ∨ k = 3)
def AtY (a k : Nat) : Prop := a = 399 ∧ (k = 3 ∨ k = 4)
theorem TpC.ag {Z : Nat → Nat → Prop} {h' : aM} (t : TpC h B T) (a : Ag Z h h') (z1 : ¬ Z 33 1) (z2 : ∀ k, ¬ Z 34 k) : TpC h' B T := ⟨a.1, t.2.1, by rw [a.2 _ _ z1, t.2.2.1], fun i hi => by rw [a.2 _ _ (z2 i)]; exact t.2.2.2.1 i hi, t.2.2.2.2⟩
theorem TpM.ag {Z : Nat → Nat → Prop} {h' : aM} (t : TpM h B T) (a : Ag Z h h') (z1 : ¬ Z 399 2) (z2 : ∀ k, ¬ Z 400 k) : TpM h' B T := ⟨a.1, t.2.1, by rw [a.2 _ _ z1, t.2.2.1], fun i hi => by rw [a.2 _ _ (z2 i)]; exact t.2.2.2.1 i hi, t.2.2.2.2⟩
theorem c_look (tc : TpC h B T) (hp : p ≤ T) (e2 : gi h 33 2 = nI p) (hq : ∀ h', Ag AtZ h h' → gi h' 33 2 = nI (sk B T p) → gi h' 33 3 = gi h 33 3 → Q (some (.int (lkI B T (sk B T p)))) h') : AW d 77 0 [some (.ref 33)] [] h Q := by
  have hT := tc.2.1
  refine aLoop (sk B T p - p) (fun j lv h' => lv = [some (.ref 33)] ∧ Ag AtZ h h' ∧ gi h' 33 2 = nI (p + j) ∧ gi h' 33 3 = gi h 33 3 ∧ p + j ≤ T ∧ sk B T (p + j) = sk B T p) ?_ ?_ 0 _ _ (Nat.zero_le _) ⟨rfl, Ag.refl tc.1, e2, rfl, hp, rfl⟩
  · rintro j lv h' hj ⟨rfl, a1, e3, e4, hj2, e5⟩ hk
    have tc' := tc.ag a1 (by unfold AtZ; omega) (by unfold AtZ; omega)
    have ok := a1.1
    have hb : p + j < T ∧ B (p + j) = 32 := by
      apply Decidable.byContradiction
      intro q
      rw [sk_i q] at e5
      omega
    have e6 := tc'.2.2.2.1 (p + j) hb.1
    rw [hb.2] at e6
    have i1 : p + j < 240 := by omega
    have n1 : ¬ T ≤ p + j := by omega
    rw [s77_0]
    simp (disch := omega) only [s77_1, s77_4, s77_5, s77_8, s77_11, s77_12, s77_15, s77_16, s77_19, s77_20, s77_22, s77_25, s77_26, s77_26i, s77_27, s77_30, s77_31, s77_32, s77_35, s77_38, s77_39, s77_42, s77_43, s77_46, s77_49, s77_50, s77_53, s77_54, s77_57, s77_58, s77_61, s77_62, true_or, or_true, or_false, false_or, or_self, Int32.reduceLT, Int32.reduceLE, Nat.add_zero, Nat.zero_add, Nat.not_lt_zero, not_false_eq_true, not_true_eq_false, and_assoc, kl_q, kl_i, kl_r, kl_n, kl_0, kl_l, cs_0, cs_i, cs_r, cs_n, cs_l, aRf_s, aRf_n, gi_wl, gi_wr, gl_wi, gl_wl, gl_wr, gr_wi, gr_wl, gr_wr, sh_wi, sh_wl, sh_wr, gl_cp, gr_cp, sh_cp, gl_rw, gr_rw, sh_rw, gi_rl, gr_rl, sh_rl, Option.toList_some, Option.toList_none, List.nil_append, List.cons_append, List.append_nil, Option.some.injEq, Prod.mk.injEq, and_true, true_and, and_self, if_true, if_false, reduceCtorEq, Nat.reduceLeDiff, Nat.reduceLT, Nat.reduceAdd, Nat.reduceEqDiff, false_and, and_false, exists_const, exists_eq_left, exists_eq_left', exists_and_left, and_assoc, nltL, nltR, nleL, nleR, neqL, neqR, naL, naR, nmL, nmR, nI_ltI, nI_leI, nI_eq, nI_add, nI_mul, nI_clamp, n0l, n0r, nm1, nm1', nm1l, nm1r, nm1g, nsL, nI_m1, Nat.add_sub_cancel, vpn, vpL, nclL, le32, leLL, leLN, leNL, leNN, inA, nb0, nb1, gi_wi_n, gi_wi_e, gi_rw_n, gi_rw_e, aWi_rw, ifl, ifl_, ifle, ifle_, ifq, ifq_, ifnq, ifnq_, ifnl, ifnl_, ifnle, ifnle_, z33 ok, z34 ok, r33_0 ok, e3, tc'.2.2.1, e6, i1, n1]
    refine hk _ _ ⟨rfl, a1.wi ⟨rfl, Or.inl rfl⟩, ?_, ?_, by omega, ?_⟩
    · rw [gi_wi_e]
      rfl
    · rw [gi_wi_n (by omega), e4]
    · rw [← e5, sk_s hb]
      rfl
  · rintro lv h' ⟨rfl, a1, e3, e4, hj2, e5⟩
    have tc' := tc.ag a1 (by unfold AtZ; omega) (by unfold AtZ; omega)
    have ok := a1.1
    have h1 := sk_le (B := B) hp
    have e7 : p + (sk B T p - p) = sk B T p := by omega
    rw [e7] at e3
    have h2 := (sk_p (B := B) _ p rfl hp).2.2
    rw [s77_0]
    by_cases h3 : sk B T p < T
    · have e6 := tc'.2.2.2.1 _ h3
      have hb := tc.2.2.2.2 _ h3
      have b32 : ¬ B (sk B T p) = 32 := fun q => h2 ⟨h3, q⟩
      have i1 : sk B T p < 240 := by omega
      simp (disch := omega) only [s77_1, s77_4, s77_5, s77_8, s77_11, s77_12, s77_15, s77_16, s77_19, s77_20, s77_22, s77_25, s77_26, s77_26i, s77_27, s77_30, s77_31, s77_32, s77_35, s77_38, s77_39, s77_42, s77_43, s77_46, s77_49, s77_50, s77_53, s77_54, s77_57, s77_58, s77_61, s77_62, true_or, or_true, or_false, false_or, or_self, Int32.reduceLT, Int32.reduceLE, Nat.add_zero, Nat.zero_add, Nat.not_lt_zero, not_false_eq_true, not_true_eq_false, and_assoc, kl_q, kl_i, kl_r, kl_n, kl_0, kl_l, cs_0, cs_i, cs_r, cs_n, cs_l, aRf_s, aRf_n, gi_wl, gi_wr, gl_wi, gl_wl, gl_wr, gr_wi, gr_wl, gr_wr, sh_wi, sh_wl, sh_wr, gl_cp, gr_cp, sh_cp, gl_rw, gr_rw, sh_rw, gi_rl, gr_rl, sh_rl, Option.toList_some, Option.toList_none, List.nil_append, List.cons_append, List.append_nil, Option.some.injEq, Prod.mk.injEq, and_true, true_and, and_self, if_true, if_false, reduceCtorEq, Nat.reduceLeDiff, Nat.reduceLT, Nat.reduceAdd, Nat.reduceEqDiff, false_and, and_false, exists_const, exists_eq_left, exists_eq_left', exists_and_left, and_assoc, nltL, nltR, nleL, nleR, neqL, neqR, naL, naR, nmL, nmR, nI_ltI, nI_leI, nI_eq, nI_add, nI_mul, nI_clamp, n0l, n0r, nm1, nm1', nm1l, nm1r, nm1g, nsL, nI_m1, Nat.add_sub_cancel, vpn, vpL, nclL, le32, leLL, leLN, leNL, leNN, inA, nb0, nb1, gi_wi_n, gi_wi_e, gi_rw_n, gi_rw_e, aWi_rw, ifl, ifl_, ifle, ifle_, ifq, ifq_, ifnq, ifnq_, ifnl, ifnl_, ifnle, ifnle_, z33 ok, z34 ok, r33_0 ok, e3, tc'.2.2.1, e6, i1, b32]
      have := hq h' a1 e3 e4
      unfold lkI at this
      rw [if_pos h3] at this
      exact this
    · simp (disch := omega) only [s77_1, s77_4, s77_5, s77_8, s77_11, s77_12, s77_15, s77_16, s77_19, s77_20, s77_22, s77_25, s77_26, s77_26i, s77_27, s77_30, s77_31, s77_32, s77_35, s77_38, s77_39, s77_42, s77_43, s77_46, s77_49, s77_50, s77_53, s77_54, s77_57, s77_58, s77_61, s77_62, true_or, or_true, or_false, false_or, or_self, Int32.reduceLT, Int32.reduceLE, Nat.add_zero, Nat.zero_add, Nat.not_lt_zero, not_false_eq_true, not_true_eq_false, and_assoc, kl_q, kl_i, kl_r, kl_n, kl_0, kl_l, cs_0, cs_i, cs_r, cs_n, cs_l, aRf_s, aRf_n, gi_wl, gi_wr, gl_wi, gl_wl, gl_wr, gr_wi, gr_wl, gr_wr, sh_wi, sh_wl, sh_wr, gl_cp, gr_cp, sh_cp, gl_rw, gr_rw, sh_rw, gi_rl, gr_rl, sh_rl, Option.toList_some, Option.toList_none, List.nil_append, List.cons_append, List.append_nil, Option.some.injEq, Prod.mk.injEq, and_true, true_and, and_self, if_true, if_false, reduceCtorEq, Nat.reduceLeDiff, Nat.reduceLT, Nat.reduceAdd, Nat.reduceEqDiff, false_and, and_false, exists_const, exists_eq_left, exists_eq_left', exists_and_left, and_assoc, nltL, nltR, nleL, nleR, neqL, neqR, naL, naR, nmL, nmR, nI_ltI, nI_leI, nI_eq, nI_add, nI_mul, nI_clamp, n0l, n0r, nm1, nm1', nm1l, nm1r, nm1g, nsL, nI_m1, Nat.add_sub_cancel, vpn, vpL, nclL, le32, leLL, leLN, leNL, leNN, inA, nb0, nb1, gi_wi_n, gi_wi_e, gi_rw_n, gi_rw_e, aWi_rw, ifl, ifl_, ifle, ifle_, ifq, ifq_, ifnq, ifnq_, ifnl, ifnl_, ifnle, ifnle_, z33 ok, z34 ok, r33_0 ok, e3, tc'.2.2.1]
      have := hq h' a1 e3 e4
      unfold lkI at this
      rw [if_neg h3] at this
      exact this
theorem c_passT (tc : TpC h B T) (hp : p < T) (e2 : gi h 33 2 = nI p) (hq : ∀ h', Ag AtZ h h' → gi h' 33 2 = nI (p + 1) → gi h' 33 3 = gi h 33 3 → Q none h') : AW d 78 0 [some (.ref 33)] [] h Q := by
  have ok := tc.1
  have hT := tc.2.1
  simp (disch := omega) only [s78_0, s78_1, s78_4, s78_5, s78_8, s78_11, s78_12, s78_12i, s78_13, s78_16, s78_17, s78_18, s78_21, true_or, or_true, or_false, false_or, or_self, Int32.reduceLT, Int32.reduceLE, Nat.add_zero, Nat.zero_add, Nat.not_lt_zero, not_false_eq_true, not_true_eq_false, and_assoc, kl_q, kl_i, kl_r, kl_n, kl_0, kl_l, cs_0, cs_i, cs_r, cs_n, cs_l, aRf_s, aRf_n, gi_wl, gi_wr, gl_wi, gl_wl, gl_wr, gr_wi, gr_wl, gr_wr, sh_wi, sh_wl, sh_wr, gl_cp, gr_cp, sh_cp, gl_rw, gr_rw, sh_rw, gi_rl, gr_rl, sh_rl, Option.toList_some, Option.toList_none, List.nil_append, List.cons_append, List.append_nil, Option.some.injEq, Prod.mk.injEq, and_true, true_and, and_self, if_true, if_false, reduceCtorEq, Nat.reduceLeDiff, Nat.reduceLT, Nat.reduceAdd, Nat.reduceEqDiff, false_and, and_false, exists_const, exists_eq_left, exists_eq_left', exists_and_left, and_assoc, nltL, nltR, nleL, nleR, neqL, neqR, naL, naR, nmL, nmR, nI_ltI, nI_leI, nI_eq, nI_add, nI_mul, nI_clamp, n0l, n0r, nm1, nm1', nm1l, nm1r, nm1g, nsL, nI_m1, Nat.add_sub_cancel, vpn, vpL, nclL, le32, leLL, leLN, leNL, leNN, inA, nb0, nb1, gi_wi_n, gi_wi_e, gi_rw_n, gi_rw_e, aWi_rw, ifl, ifl_, ifle, ifle_, ifq, ifq_, ifnq, ifnq_, ifnl, ifnl_, ifnle, ifnle_, z33 ok, e2, tc.2.2.1]
  exact hq _ ((Ag.refl ok).wi ⟨rfl, Or.inl rfl⟩) gi_wi_e (gi_wi_n (by omega))
theorem c_wrong (ok : OK h) (e2 : gi h 33 2 = nI p) (hq : ∀ h', Ag AtZ h h' → gi h' 33 2 = nI p → gi h' 33 3 = nI p → Q (some (.int 0)) h') : AW d 80 0 [some (.ref 33)] [] h Q := by
  simp (disch := omega) only [s80_0, s80_1, s80_2, s80_5, s80_8, s80_9, true_or, or_true, or_false, false_or, or_self, Int32.reduceLT, Int32.reduceLE, Nat.add_zero, Nat.zero_add, Nat.not_lt_zero, not_false_eq_true, not_true_eq_false, and_assoc, kl_q, kl_i, kl_r, kl_n, kl_0, kl_l, cs_0, cs_i, cs_r, cs_n, cs_l, aRf_s, aRf_n, gi_wl, gi_wr, gl_wi, gl_wl, gl_wr, gr_wi, gr_wl, gr_wr, sh_wi, sh_wl, sh_wr, gl_cp, gr_cp, sh_cp, gl_rw, gr_rw, sh_rw, gi_rl, gr_rl, sh_rl, Option.toList_some, Option.toList_none, List.nil_append, List.cons_append, List.append_nil, Option.some.injEq, Prod.mk.injEq, and_true, true_and, and_self, if_true, if_false, reduceCtorEq, Nat.reduceLeDiff, Nat.reduceLT, Nat.reduceAdd, Nat.reduceEqDiff, false_and, and_false, exists_const, exists_eq_left, exists_eq_left', exists_and_left, and_assoc, nltL, nltR, nleL, nleR, neqL, neqR, naL, naR, nmL, nmR, nI_ltI, nI_leI, nI_eq, nI_add, nI_mul, nI_clamp, n0l, n0r, nm1, nm1', nm1l, nm1r, nm1g, nsL, nI_m1, Nat.add_sub_cancel, vpn, vpL, nclL, le32, leLL, leLN, leNL, leNN, inA, nb0, nb1, gi_wi_n, gi_wi_e, gi_rw_n, gi_rw_e, aWi_rw, ifl, ifl_, ifle, ifle_, ifq, ifq_, ifnq, ifnq_, ifnl, ifnl_, ifnle, ifnle_, z33 ok, e2]
  exact hq _ ((Ag.refl ok).wi ⟨rfl, Or.inr rfl⟩) (by rw [gi_wi_n (by omega), e2]) gi_wi_e
theorem lk_lt {b : Nat} (hb : b < 2 ^ 31) (h : lkI B T p = nI b) : p < T := by
  unfold lkI at h
  split at h
  · assumption
  · exact absurd h.symm (fun q => (nm1 hb).mp q)
theorem c_take {b : Nat} (tc : TpC h B T) (hp : p ≤ T) (e2 : gi h 33 2 = nI p) (hb : b < 2 ^ 31) (hq1 : lkI B T (sk B T p) = nI b → ∀ h', Ag AtZ h h' → gi h' 33 2 = nI (sk B T p + 1) → sk B T p < T → Q (some (.int 1)) h') (hq2 : ¬ lkI B T (sk B T p) = nI b → ∀ h', Ag AtZ h h' → gi h' 33 3 = nI (sk B T p) → Q (some (.int 0)) h') : AW (d + 1) 79 0 [some (.ref 33), some (.int (nI b))] [] h Q := by
  have ok := tc.1
  simp (disch := omega) only [s79_0, s79_1, s79_4, s79_5, s79_8, s79_9, s79_12, s79_13, s79_14, s79_17, s79_18, true_or, or_true, or_false, false_or, or_self, Int32.reduceLT, Int32.reduceLE, Nat.add_zero, Nat.zero_add, Nat.not_lt_zero, not_false_eq_true, not_true_eq_false, and_assoc, kl_q, kl_i, kl_r, kl_n, kl_0, kl_l, cs_0, cs_i, cs_r, cs_n, cs_l, aRf_s, aRf_n, gi_wl, gi_wr, gl_wi, gl_wl, gl_wr, gr_wi, gr_wl, gr_wr, sh_wi, sh_wl, sh_wr, gl_cp, gr_cp, sh_cp, gl_rw, gr_rw, sh_rw, gi_rl, gr_rl, sh_rl, Option.toList_some, Option.toList_none, List.nil_append, List.cons_append, List.append_nil, Option.some.injEq, Prod.mk.injEq, and_true, true_and, and_self, if_true, if_false, reduceCtorEq, Nat.reduceLeDiff, Nat.reduceLT, Nat.reduceAdd, Nat.reduceEqDiff, false_and, and_false, exists_const, exists_eq_left, exists_eq_left', exists_and_left, and_assoc, gi_wi_n, gi_wi_e, gi_rw_n, gi_rw_e, aWi_rw, ifl, ifl_, ifle, ifle_, ifq, ifq_, ifnq, ifnq_, ifnl, ifnl_, ifnle, ifnle_, z33 ok]
  refine c_look tc hp e2 (fun h1 a1 f1 f2 => ?_)
  have tc1 := tc.ag a1 (by unfold AtZ; omega) (by unfold AtZ; omega)
  have ok := a1.1
  by_cases h3 : lkI B T (sk B T p) = nI b
  · have h4 := lk_lt hb h3
    simp (disch := omega) only [s79_0, s79_1, s79_4, s79_5, s79_8, s79_9, s79_12, s79_13, s79_14, s79_17, s79_18, true_or, or_true, or_false, false_or, or_self, Int32.reduceLT, Int32.reduceLE, Nat.add_zero, Nat.zero_add, Nat.not_lt_zero, not_false_eq_true, not_true_eq_false, and_assoc, kl_q, kl_i, kl_r, kl_n, kl_0, kl_l, cs_0, cs_i, cs_r, cs_n, cs_l, aRf_s, aRf_n, gi_wl, gi_wr, gl_wi, gl_wl, gl_wr, gr_wi, gr_wl, gr_wr, sh_wi, sh_wl, sh_wr, gl_cp, gr_cp, sh_cp, gl_rw, gr_rw, sh_rw, gi_rl, gr_rl, sh_rl, Option.toList_some, Option.toList_none, List.nil_append, List.cons_append, List.append_nil, Option.some.injEq, Prod.mk.injEq, and_true, true_and, and_self, if_true, if_false, reduceCtorEq, Nat.reduceLeDiff, Nat.reduceLT, Nat.reduceAdd, Nat.reduceEqDiff, false_and, and_false, exists_const, exists_eq_left, exists_eq_left', exists_and_left, and_assoc, gi_wi_n, gi_wi_e, gi_rw_n, gi_rw_e, aWi_rw, ifl, ifl_, ifle, ifle_, ifq, ifq_, ifnq, ifnq_, ifnl, ifnl_, ifnle, ifnle_, z33 ok, h3, not_true_eq_false]
    refine c_passT tc1 h4 f1 (fun h2 a2 g1 g2 => ?_)
    simp (disch := omega) only [s79_0, s79_1, s79_4, s79_5, s79_8, s79_9, s79_12, s79_13, s79_14, s79_17, s79_18, true_or, or_true, or_false, false_or, or_self, Int32.reduceLT, Int32.reduceLE, Nat.add_zero, Nat.zero_add, Nat.not_lt_zero, not_false_eq_true, not_true_eq_false, and_assoc, kl_q, kl_i, kl_r, kl_n, kl_0, kl_l, cs_0, cs_i, cs_r, cs_n, cs_l, aRf_s, aRf_n, gi_wl, gi_wr, gl_wi, gl_wl, gl_wr, gr_wi, gr_wl, gr_wr, sh_wi, sh_wl, sh_wr, gl_cp, gr_cp, sh_cp, gl_rw, gr_rw, sh_rw, gi_rl, gr_rl, sh_rl, Option.toList_some, Option.toList_none, List.nil_append, List.cons_append, List.append_nil, Option.some.injEq, Prod.mk.injEq, and_true, true_and, and_self, if_true, if_false, reduceCtorEq, Nat.reduceLeDiff, Nat.reduceLT, Nat.reduceAdd, Nat.reduceEqDiff, false_and, and_false, exists_const, exists_eq_left, exists_eq_left', exists_and_left, and_assoc, gi_wi_n, gi_wi_e, gi_rw_n, gi_rw_e, aWi_rw, ifl, ifl_, ifle, ifle_, ifq, ifq_, ifnq, ifnq_, ifnl, ifnl_, ifnle, ifnle_, nb1]
    exact hq1 h3 h2 (a1.trans a2) g1 h4
  · simp (disch := omega) only [s79_0, s79_1, s79_4, s79_5, s79_8, s79_9, s79_12, s79_13, s79_14, s79_17, s79_18, true_or, or_true, or_false, false_or, or_self, Int32.reduceLT, Int32.reduceLE, Nat.add_zero, Nat.zero_add, Nat.not_lt_zero, not_false_eq_true, not_true_eq_false, and_assoc, kl_q, kl_i, kl_r, kl_n, kl_0, kl_l, cs_0, cs_i, cs_r, cs_n, cs_l, aRf_s, aRf_n, gi_wl, gi_wr, gl_wi, gl_wl, gl_wr, gr_wi, gr_wl, gr_wr, sh_wi, sh_wl, sh_wr, gl_cp, gr_cp, sh_cp, gl_rw, gr_rw, sh_rw, gi_rl, gr_rl, sh_rl, Option.toList_some, Option.toList_none, List.nil_append, List.cons_append, List.append_nil, Option.some.injEq, Prod.mk.injEq, and_true, true_and, and_self, if_true, if_false, reduceCtorEq, Nat.reduceLeDiff, Nat.reduceLT, Nat.reduceAdd, Nat.reduceEqDiff, false_and, and_false, exists_const, exists_eq_left, exists_eq_left', exists_and_left, and_assoc, gi_wi_n, gi_wi_e, gi_rw_n, gi_rw_e, aWi_rw, ifl, ifl_, ifle, ifle_, ifq, ifq_, ifnq, ifnq_, ifnl, ifnl_, ifnle, ifnle_, z33 ok, h3, not_false_eq_true]
    refine c_wrong ok f1 (fun h2 a2 g1 g2 => ?_)
    simp (disch := omega) only [s79_0, s79_1, s79_4, s79_5, s79_8, s79_9, s79_12, s79_13, s79_14, s79_17, s79_18, true_or, or_true, or_false, false_or, or_self, Int32.reduceLT, Int32.reduceLE, Nat.add_zero, Nat.zero_add, Nat.not_lt_zero, not_false_eq_true, not_true_eq_false, and_assoc, kl_q, kl_i, kl_r, kl_n, kl_0, kl_l, cs_0, cs_i, cs_r, cs_n, cs_l, aRf_s, aRf_n, gi_wl, gi_wr, gl_wi, gl_wl, gl_wr, gr_wi, gr_wl, gr_wr, sh_wi, sh_wl, sh_wr, gl_cp, gr_cp, sh_cp, gl_rw, gr_rw, sh_rw, gi_rl, gr_rl, sh_rl, Option.toList_some, Option.toList_none, List.nil_append, List.cons_append, List.append_nil, Option.some.injEq, Prod.mk.injEq, and_true, true_and, and_self, if_true, if_false, reduceCtorEq, Nat.reduceLeDiff, Nat.reduceLT, Nat.reduceAdd, Nat.reduceEqDiff, false_and, and_false, exists_const, exists_eq_left, exists_eq_left', exists_and_left, and_assoc, gi_wi_n, gi_wi_e, gi_rw_n, gi_rw_e, aWi_rw, ifl, ifl_, ifle, ifle_, ifq, ifq_, ifnq, ifnq_, ifnl, ifnl_, ifnle, ifnle_, nb0]
    exact hq2 h3 h2 (a1.trans a2) g2
theorem c_dig {b : Nat} (hb : b < 2 ^ 31) : AW d 83 0 [some (.int (nI b))] [] h Q ↔ Q (some (.int (bI (isD b)))) h := by
  unfold isD
  by_cases h1 : 48 ≤ b
  · by_cases h2 : b ≤ 57
    · simp (disch := omega) only [s83_0, s83_1, s83_3, s83_6, s83_7, s83_9, s83_12, s83_13, s83_16, s83_17, true_or, or_true, or_false, false_or, or_self, Int32.reduceLT, Int32.reduceLE, Nat.add_zero, Nat.zero_add, Nat.not_lt_zero, not_false_eq_true, not_true_eq_false, and_assoc, kl_q, kl_i, kl_r, kl_n, kl_0, kl_l, cs_0, cs_i, cs_r, cs_n, cs_l, aRf_s, aRf_n, gi_wl, gi_wr, gl_wi, gl_wl, gl_wr, gr_wi, gr_wl, gr_wr, sh_wi, sh_wl, sh_wr, gl_cp, gr_cp, sh_cp, gl_rw, gr_rw, sh_rw, gi_rl, gr_rl, sh_rl, Option.toList_some, Option.toList_none, List.nil_append, List.cons_append, List.append_nil, Option.some.injEq, Prod.mk.injEq, and_true, true_and, and_self, if_true, if_false, reduceCtorEq, Nat.reduceLeDiff, Nat.reduceLT, Nat.reduceAdd, Nat.reduceEqDiff, false_and, and_false, exists_const, exists_eq_left, exists_eq_left', exists_and_left, and_assoc, nltL, nltR, nleL, nleR, neqL, neqR, naL, naR, nmL, nmR, nI_ltI, nI_leI, nI_eq, nI_add, nI_mul, nI_clamp, n0l, n0r, nm1, nm1', nm1l, nm1r, nm1g, nsL, nI_m1, Nat.add_sub_cancel, vpn, vpL, nclL, le32, leLL, leLN, leNL, leNN, inA, nb0, nb1, gi_wi_n, gi_wi_e, gi_rw_n, gi_rw_e, aWi_rw, ifl, ifl_, ifle, ifle_, ifq, ifq_, ifnq, ifnq_, ifnl, ifnl_, ifnle, ifnle_]
      simp [h1, h2, bI]
    · simp (disch := omega) only [s83_0, s83_1, s83_3, s83_6, s83_7, s83_9, s83_12, s83_13, s83_16, s83_17, true_or, or_true, or_false, false_or, or_self, Int32.reduceLT, Int32.reduceLE, Nat.add_zero, Nat.zero_add, Nat.not_lt_zero, not_false_eq_true, not_true_eq_false, and_assoc, kl_q, kl_i, kl_r, kl_n, kl_0, kl_l, cs_0, cs_i, cs_r, cs_n, cs_l, aRf_s, aRf_n, gi_wl, gi_wr, gl_wi, gl_wl, gl_wr, gr_wi, gr_wl, gr_wr, sh_wi, sh_wl, sh_wr, gl_cp, gr_cp, sh_cp, gl_rw, gr_rw, sh_rw, gi_rl, gr_rl, sh_rl, Option.toList_some, Option.toList_none, List.nil_append, List.cons_append, List.append_nil, Option.some.injEq, Prod.mk.injEq, and_true, true_and, and_self, if_true, if_false, reduceCtorEq, Nat.reduceLeDiff, Nat.reduceLT, Nat.reduceAdd, Nat.reduceEqDiff, false_and, and_false, exists_const, exists_eq_left, exists_eq_left', exists_and_left, and_assoc, nltL, nltR, nleL, nleR, neqL, neqR, naL, naR, nmL, nmR, nI_ltI, nI_leI, nI_eq, nI_add, nI_mul, nI_clamp, n0l, n0r, nm1, nm1', nm1l, nm1r, nm1g, nsL, nI_m1, Nat.add_sub_cancel, vpn, vpL, nclL, le32, leLL, leLN, leNL, leNN, inA, nb0, nb1, gi_wi_n, gi_wi_e, gi_rw_n, gi_rw_e, aWi_rw, ifl, ifl_, ifle, ifle_, ifq, ifq_, ifnq, ifnq_, ifnl, ifnl_, ifnle, ifnle_]
      simp [h1, h2, bI]
  · simp (disch := omega) only [s83_0, s83_1, s83_3, s83_6, s83_7, s83_9, s83_12, s83_13, s83_16, s83_17, true_or, or_true, or_false, false_or, or_self, Int32.reduceLT, Int32.reduceLE, Nat.add_zero, Nat.zero_add, Nat.not_lt_zero, not_false_eq_true, not_true_eq_false, and_assoc, kl_q, kl_i, kl_r, kl_n, kl_0, kl_l, cs_0, cs_i, cs_r, cs_n, cs_l, aRf_s, aRf_n, gi_wl, gi_wr, gl_wi, gl_wl, gl_wr, gr_wi, gr_wl, gr_wr, sh_wi, sh_wl, sh_wr, gl_cp, gr_cp, sh_cp, gl_rw, gr_rw, sh_rw, gi_rl, gr_rl, sh_rl, Option.toList_some, Option.toList_none, List.nil_append, List.cons_append, List.append_nil, Option.some.injEq, Prod.mk.injEq, and_true, true_and, and_self, if_true, if_false, reduceCtorEq, Nat.reduceLeDiff, Nat.reduceLT, Nat.reduceAdd, Nat.reduceEqDiff, false_and, and_false, exists_const, exists_eq_left, exists_eq_left', exists_and_left, and_assoc, nltL, nltR, nleL, nleR, neqL, neqR, naL, naR, nmL, nmR, nI_ltI, nI_leI, nI_eq, nI_add, nI_mul, nI_clamp, n0l, n0r, nm1, nm1', nm1l, nm1r, nm1g, nsL, nI_m1, Nat.add_sub_cancel, vpn, vpL, nclL, le32, leLL, leLN, leNL, leNN, inA, nb0, nb1, gi_wi_n, gi_wi_e, gi_rw_n, gi_rw_e, aWi_rw, ifl, ifl_, ifle, ifle_, ifq, ifq_, ifnq, ifnq_, ifnl, ifnl_, ifnle, ifnle_]
    simp [h1, bI]
theorem c_digN : AW d 83 0 [some (.int (-1))] [] h Q ↔ Q (some (.int 0)) h := by
  simp (disch := omega) only [s83_0, s83_1, s83_3, s83_6, s83_7, s83_9, s83_12, s83_13, s83_16, s83_17, true_or, or_true, or_false, false_or, or_self, Int32.reduceLT, Int32.reduceLE, Nat.add_zero, Nat.zero_add, Nat.not_lt_zero, not_false_eq_true, not_true_eq_false, and_assoc, kl_q, kl_i, kl_r, kl_n, kl_0, kl_l, cs_0, cs_i, cs_r, cs_n, cs_l, aRf_s, aRf_n, gi_wl, gi_wr, gl_wi, gl_wl, gl_wr, gr_wi, gr_wl, gr_wr, sh_wi, sh_wl, sh_wr, gl_cp, gr_cp, sh_cp, gl_rw, gr_rw, sh_rw, gi_rl, gr_rl, sh_rl, Option.toList_some, Option.toList_none, List.nil_append, List.cons_append, List.append_nil, Option.some.injEq, Prod.mk.injEq, and_true, true_and, and_self, if_true, if_false, reduceCtorEq, Nat.reduceLeDiff, Nat.reduceLT, Nat.reduceAdd, Nat.reduceEqDiff, false_and, and_false, exists_const, exists_eq_left, exists_eq_left', exists_and_left, and_assoc, nltL, nltR, nleL, nleR, neqL, neqR, naL, naR, nmL, nmR, nI_ltI, nI_leI, nI_eq, nI_add, nI_mul, nI_clamp, n0l, n0r, nm1, nm1', nm1l, nm1r, nm1g, nsL, nI_m1, Nat.add_sub_cancel, vpn, vpL, nclL, le32, leLL, leLN, leNL, leNN, inA, nb0, nb1, gi_wi_n, gi_wi_e, gi_rw_n, gi_rw_e, aWi_rw, ifl, ifl_, ifle, ifle_, ifq, ifq_, ifnq, ifnq_, ifnl, ifnl_, ifnle, ifnle_]
end T1
