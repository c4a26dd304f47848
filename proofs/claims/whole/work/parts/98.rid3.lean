-- deps: 97.rid2
/-! ===== rides as texts: the whole ride; how the class reads it ===== -/
def whP (s : RS) : Prop := 0 < s.2.2.1.length ∧ (∀ k, k < s.2.2.1.length → mf s.2.2.1 k 0 ≤ s.2.1 0) ∧ ∀ k, k < s.2.2.2.length → mf s.2.2.2 k 0 ≤ s.2.1 0 ∧ ∀ o, o < k → ¬ mf s.2.2.2 o 0 = mf s.2.2.2 k 0
noncomputable def enG (T : Nat) (s : RS) : Option (Nat ⊕ RS) := @ite _ (whP s) (Classical.propDecidable _) (some (.inr s)) (some (.inl T))
theorem enG_t {T : Nat} {s : RS} (h : whP s) : enG T s = some (.inr s) := by
  unfold enG
  rw [if_pos h]
theorem enG_f {T : Nat} {s : RS} (h : ¬ whP s) : enG T s = some (.inl T) := by
  unfold enG
  rw [if_neg h]
noncomputable def rdG (B : Nat → Nat) (T : Nat) : Nat → Nat → RS → Option (Nat ⊕ RS)
  | 0, _, _ => none
  | f + 1, p, s => match rcG B T p s with
    | none => none
    | some (.inl q) => some (.inl q)
    | some (.inr (p1, s1)) => if T ≤ sk B T p1 then enG T s1 else if sgB B T (sk B T p1) = 59 then rdG B T f (sk B T p1 + 1) s1 else some (.inl (sk B T p1))
section D3
variable {B : Nat → Nat} {T p : Nat} {s : RS}
theorem rcG_ex (hp : p ≤ T) : ∃ r, rcG B T p s = some r := by
  have hs := sk_le (B := B) hp
  have key : ∀ κ, κ < 3 → ∀ q, q ≤ T → ∃ r, itG B T κ (mK κ + 1) q 0 (usK κ) = some r := fun κ hκ q hq => itG_ex hκ _ _ _ _ hq (Nat.two_pow_pos _) (by rw [show bc 0 = 0 from rfl]; omega)
  unfold rcG
  split
  · next c =>
    have := sg_lt (by omega) c.1
    obtain ⟨r, e⟩ := key 0 (by omega) (sk B T p + 1) (by omega)
    rw [e]
    cases r with
    | inl q => exact ⟨_, rfl⟩
    | inr x => exact ⟨_, rfl⟩
  · split
    · next c =>
      have := sg_lt (by omega) c.1
      obtain ⟨r, e⟩ := key 1 (by omega) (sk B T p + 1) (by omega)
      rw [e]
      cases r with
      | inl q => exact ⟨_, rfl⟩
      | inr x => exact ⟨_, rfl⟩
    · split
      · next c =>
        have := sg_lt (by omega) c.1
        obtain ⟨r, e⟩ := key 2 (by omega) (sk B T p + 1) (by omega)
        rw [e]
        cases r with
        | inl q => exact ⟨_, rfl⟩
        | inr x => exact ⟨_, rfl⟩
      · exact ⟨_, rfl⟩
theorem rcG_er {q : Nat} (h : rcG B T p s = some (.inl q)) (hp : p ≤ T) : q ≤ T := by
  have hs := sk_le (B := B) hp
  have key : ∀ κ, κ < 3 → ∀ q z, z ≤ T → itG B T κ (mK κ + 1) z 0 (usK κ) = some (.inl q) → q ≤ T := fun κ hκ q z hz e => itG_pos (r := .inl q) _ _ _ _ e hz (us_ok κ hκ)
  unfold rcG at h
  split at h
  · next c =>
    have := sg_lt (by omega) c.1
    split at h
    · cases h
    · next e =>
      cases h
      exact key 0 (by omega) _ _ (by omega) e
    · cases h
  · split at h
    · next c =>
      have := sg_lt (by omega) c.1
      split at h
      · cases h
      · next e =>
        cases h
        exact key 1 (by omega) _ _ (by omega) e
      · cases h
    · split at h
      · next c =>
        have := sg_lt (by omega) c.1
        split at h
        · cases h
        · next e =>
          cases h
          exact key 2 (by omega) _ _ (by omega) e
        · cases h
      · cases h
        exact hs.2
theorem rcG_ok {p1 : Nat} {s1 : RS} (so : RsOk s) (h : rcG B T p s = some (.inr (p1, s1))) (hp : p ≤ T) : RsOk s1 ∧ p < p1 ∧ p1 ≤ T := by
  have hs := sk_le (B := B) hp
  obtain ⟨o1, o2, o3, o4, o5, o6⟩ := so
  have key : ∀ κ, κ < 3 → ∀ q row z, z ≤ T → itG B T κ (mK κ + 1) z 0 (usK κ) = some (.inr (q, row)) → z ≤ q ∧ q ≤ T ∧ ∀ k, k < mK κ → loK κ k ≤ row k ∧ row k ≤ hiK κ k := fun κ hκ q row z hz e => itG_pos (r := .inr (q, row)) _ _ _ _ e hz (us_ok κ hκ)
  unfold rcG at h
  split at h
  · next c =>
    have := sg_lt (by omega) c.1
    split at h
    · cases h
    · cases h
    · next e =>
      cases h
      obtain ⟨k1, k2, k3⟩ := key 0 (by omega) _ _ _ (by omega) e
      exact ⟨⟨o1, o2, (fun z => by cases z), k3, o5, o6⟩, by omega, k2⟩
  · split at h
    · next c =>
      have := sg_lt (by omega) c.1
      split at h
      · cases h
      · cases h
      · next row e =>
        cases h
        obtain ⟨k1, k2, k3⟩ := key 1 (by omega) _ _ _ (by omega) e
        refine ⟨⟨by show (s.2.2.1 ++ [row]).length ≤ 6; rw [List.length_append, List.length_singleton]; omega, o2, o3, o4, fun i hi k hk => ?_, o6⟩, by omega, k2⟩
        have hi : i < (s.2.2.1 ++ [row]).length := hi
        rw [List.length_append, List.length_singleton] at hi
        show mf (s.2.2.1 ++ [row]) i k ≤ _
        by_cases hil : i = s.2.2.1.length
        · subst hil
          rw [mf_new]
          exact (k3 k hk).2
        · rw [mf_old (by omega)]
          exact o5 i (by omega) k hk
    · split at h
      · next c =>
        have := sg_lt (by omega) c.1
        split at h
        · cases h
        · cases h
        · next row e =>
          cases h
          obtain ⟨k1, k2, k3⟩ := key 2 (by omega) _ _ _ (by omega) e
          refine ⟨⟨o1, by show (s.2.2.2 ++ [row]).length ≤ 5; rw [List.length_append, List.length_singleton]; omega, o3, o4, o5, fun i hi k hk => ?_⟩, by omega, k2⟩
          have hi : i < (s.2.2.2 ++ [row]).length := hi
          rw [List.length_append, List.length_singleton] at hi
          show mf (s.2.2.2 ++ [row]) i k ≤ _
          by_cases hil : i = s.2.2.2.length
          · subst hil
            rw [mf_new]
            exact (k3 k hk).2
          · rw [mf_old (by omega)]
            exact o6 i (by omega) k hk
      · cases h
theorem rdG_ex : ∀ f p s, RsOk s → p ≤ T → T < f + p → ∃ r, rdG B T f p s = some r
  | 0, p, s, so, hp, hf => absurd hf (by omega)
  | f + 1, p, s, so, hp, hf => by
    obtain ⟨r, hr⟩ := rcG_ex (B := B) (s := s) hp
    unfold rdG
    rw [hr]
    cases r with
    | inl q => exact ⟨_, rfl⟩
    | inr x =>
      obtain ⟨p1, s1⟩ := x
      obtain ⟨c1, c2, c3⟩ := rcG_ok so hr hp
      have hs := sk_le (B := B) c3
      simp only
      split
      · by_cases hw : whP s1
        · exact ⟨_, enG_t hw⟩
        · exact ⟨_, enG_f hw⟩
      · split
        · exact rdG_ex f _ _ c1 (by omega) (by omega)
        · exact ⟨_, rfl⟩
theorem rs0 : RsOk (false, usK 0, [], []) := ⟨by decide, by decide, fun _ => rfl, us_ok 0 (by omega), fun i hi => absurd hi (Nat.not_lt_zero _), fun i hi => absurd hi (Nat.not_lt_zero _)⟩
variable {d : Nat} {h : aM} {Q : Option Value → aM → Prop}
theorem c_hasFord {k : Nat} (rc : RcC h B T p s) (so : RsOk s) (hk : k < s.2.2.2.length) (h1 : (∀ o, o < k → ¬ mf s.2.2.2 o 0 = mf s.2.2.2 k 0) → Q (some (.int 0)) h) (h2 : (∃ o, o < k ∧ mf s.2.2.2 o 0 = mf s.2.2.2 k 0) → Q (some (.int 1)) h) : AW d 87 0 [some (.ref 36), some (.int (nI k)), none] [] h Q := by
  have ok := rc.1.1
  have l2 := so.2.1
  have r9 := rc.2.2.2.2.2.2.2.2
  have o6 := so.2.2.2.2.2
  obtain ⟨g2, s2⟩ := r45i (i := k) ok (by omega)
  have v2 := r9 k hk 0 (by omega)
  have b2 : mf s.2.2.2 k 0 ≤ 30 := o6 k hk 0 (by omega)
  have k5 : k < 5 := by omega
  simp (disch := omega) only [s87_0, s87_1, true_or, or_true, or_false, false_or, or_self, Int32.reduceLT, Int32.reduceLE, Nat.add_zero, Nat.zero_add, Nat.not_lt_zero, not_false_eq_true, not_true_eq_false, and_assoc, kl_q, kl_i, kl_r, kl_n, kl_0, kl_l, cs_0, cs_i, cs_r, cs_n, cs_l, aRf_s, aRf_n, gi_wl, gi_wr, gl_wi, gl_wl, gl_wr, gr_wi, gr_wl, gr_wr, sh_wi, sh_wl, sh_wr, gl_cp, gr_cp, sh_cp, gl_rw, gr_rw, sh_rw, gi_rl, gr_rl, sh_rl, Option.toList_some, Option.toList_none, List.nil_append, List.cons_append, List.append_nil, Option.some.injEq, Prod.mk.injEq, and_true, true_and, and_self, if_true, if_false, reduceCtorEq, Nat.reduceLeDiff, Nat.reduceLT, Nat.reduceAdd, Nat.reduceEqDiff, false_and, and_false, exists_const, exists_eq_left, exists_eq_left', exists_and_left, and_assoc, nltL, nltR, nleL, nleR, neqL, neqR, naL, naR, nmL, nmR, nI_ltI, nI_leI, nI_eq, nI_add, nI_mul, nI_clamp, n0l, n0r, nm1, nm1', nm1l, nm1r, nm1g, nsL, nI_m1, Nat.add_sub_cancel, vpn, vpL, nclL, le32, leLL, leLN, leNL, leNN, inA, nb0, nb1, gi_wi_n, gi_wi_e, gi_rw_n, gi_rw_e, aWi_rw, ifl, ifl_, ifle, ifle_, ifq, ifq_, ifnq, ifnq_, ifnl, ifnl_, ifnle, ifnle_]
  refine aLoop k (fun j lv h' => lv = [some (.ref 36), some (.int (nI k)), some (.int (nI j))] ∧ h' = h ∧ ∀ o, o < j → ¬ mf s.2.2.2 o 0 = mf s.2.2.2 k 0) ?_ ?_ 0 _ _ (Nat.zero_le _) ⟨rfl, rfl, fun o ho => absurd ho (Nat.not_lt_zero _)⟩
  · rintro j lv h' hj ⟨rfl, rfl, e⟩ hk'
    obtain ⟨g1, s1⟩ := r45i (i := j) ok (by omega)
    have v1 := r9 j (by omega) 0 (by omega)
    have b1 : mf s.2.2.2 j 0 ≤ 30 := o6 j (by omega) 0 (by omega)
    have n1 : ¬ k ≤ j := by omega
    have j5 : j < 5 := by omega
    rw [s87_2]
    by_cases he : mf s.2.2.2 j 0 = mf s.2.2.2 k 0
    · simp (disch := omega) only [s87_0, s87_1, s87_3, s87_4, s87_7, s87_8, s87_11, s87_12, s87_13, s87_14, s87_15, s87_16, s87_19, s87_20, s87_21, s87_22, s87_23, s87_26, s87_27, s87_28, s87_31, s87_34, s87_35, true_or, or_true, or_false, false_or, or_self, Int32.reduceLT, Int32.reduceLE, Nat.add_zero, Nat.zero_add, Nat.not_lt_zero, not_false_eq_true, not_true_eq_false, and_assoc, kl_q, kl_i, kl_r, kl_n, kl_0, kl_l, cs_0, cs_i, cs_r, cs_n, cs_l, aRf_s, aRf_n, gi_wl, gi_wr, gl_wi, gl_wl, gl_wr, gr_wi, gr_wl, gr_wr, sh_wi, sh_wl, sh_wr, gl_cp, gr_cp, sh_cp, gl_rw, gr_rw, sh_rw, gi_rl, gr_rl, sh_rl, Option.toList_some, Option.toList_none, List.nil_append, List.cons_append, List.append_nil, Option.some.injEq, Prod.mk.injEq, and_true, true_and, and_self, if_true, if_false, reduceCtorEq, Nat.reduceLeDiff, Nat.reduceLT, Nat.reduceAdd, Nat.reduceEqDiff, false_and, and_false, exists_const, exists_eq_left, exists_eq_left', exists_and_left, and_assoc, nltL, nltR, nleL, nleR, neqL, neqR, naL, naR, nmL, nmR, nI_ltI, nI_leI, nI_eq, nI_add, nI_mul, nI_clamp, n0l, n0r, nm1, nm1', nm1l, nm1r, nm1g, nsL, nI_m1, Nat.add_sub_cancel, vpn, vpL, nclL, le32, leLL, leLN, leNL, leNN, inA, nb0, nb1, gi_wi_n, gi_wi_e, gi_rw_n, gi_rw_e, aWi_rw, ifl, ifl_, ifle, ifle_, ifq, ifq_, ifnq, ifnq_, ifnl, ifnl_, ifnle, ifnle_, z36 ok, z45 ok, r36_2 ok, n1, j5, k5, g1, g2, s1, s2, v1, v2, he]
      exact h2 ⟨j, hj, he⟩
    · simp (disch := omega) only [s87_0, s87_1, s87_3, s87_4, s87_7, s87_8, s87_11, s87_12, s87_13, s87_14, s87_15, s87_16, s87_19, s87_20, s87_21, s87_22, s87_23, s87_26, s87_27, s87_28, s87_31, s87_34, s87_35, true_or, or_true, or_false, false_or, or_self, Int32.reduceLT, Int32.reduceLE, Nat.add_zero, Nat.zero_add, Nat.not_lt_zero, not_false_eq_true, not_true_eq_false, and_assoc, kl_q, kl_i, kl_r, kl_n, kl_0, kl_l, cs_0, cs_i, cs_r, cs_n, cs_l, aRf_s, aRf_n, gi_wl, gi_wr, gl_wi, gl_wl, gl_wr, gr_wi, gr_wl, gr_wr, sh_wi, sh_wl, sh_wr, gl_cp, gr_cp, sh_cp, gl_rw, gr_rw, sh_rw, gi_rl, gr_rl, sh_rl, Option.toList_some, Option.toList_none, List.nil_append, List.cons_append, List.append_nil, Option.some.injEq, Prod.mk.injEq, and_true, true_and, and_self, if_true, if_false, reduceCtorEq, Nat.reduceLeDiff, Nat.reduceLT, Nat.reduceAdd, Nat.reduceEqDiff, false_and, and_false, exists_const, exists_eq_left, exists_eq_left', exists_and_left, and_assoc, nltL, nltR, nleL, nleR, neqL, neqR, naL, naR, nmL, nmR, nI_ltI, nI_leI, nI_eq, nI_add, nI_mul, nI_clamp, n0l, n0r, nm1, nm1', nm1l, nm1r, nm1g, nsL, nI_m1, Nat.add_sub_cancel, vpn, vpL, nclL, le32, leLL, leLN, leNL, leNN, inA, nb0, nb1, gi_wi_n, gi_wi_e, gi_rw_n, gi_rw_e, aWi_rw, ifl, ifl_, ifle, ifle_, ifq, ifq_, ifnq, ifnq_, ifnl, ifnl_, ifnle, ifnle_, z36 ok, z45 ok, r36_2 ok, n1, j5, k5, g1, g2, s1, s2, v1, v2, he]
      refine hk' _ _ ⟨rfl, rfl, fun o ho => ?_⟩
      by_cases hoj : o = j
      · rw [hoj]
        exact he
      · exact e o (by omega)
  · rintro lv h' ⟨rfl, rfl, e⟩
    rw [s87_2]
    simp (disch := omega) only [s87_0, s87_1, s87_3, s87_4, s87_7, s87_8, s87_11, s87_12, s87_13, s87_14, s87_15, s87_16, s87_19, s87_20, s87_21, s87_22, s87_23, s87_26, s87_27, s87_28, s87_31, s87_34, s87_35, true_or, or_true, or_false, false_or, or_self, Int32.reduceLT, Int32.reduceLE, Nat.add_zero, Nat.zero_add, Nat.not_lt_zero, not_false_eq_true, not_true_eq_false, and_assoc, kl_q, kl_i, kl_r, kl_n, kl_0, kl_l, cs_0, cs_i, cs_r, cs_n, cs_l, aRf_s, aRf_n, gi_wl, gi_wr, gl_wi, gl_wl, gl_wr, gr_wi, gr_wl, gr_wr, sh_wi, sh_wl, sh_wr, gl_cp, gr_cp, sh_cp, gl_rw, gr_rw, sh_rw, gi_rl, gr_rl, sh_rl, Option.toList_some, Option.toList_none, List.nil_append, List.cons_append, List.append_nil, Option.some.injEq, Prod.mk.injEq, and_true, true_and, and_self, if_true, if_false, reduceCtorEq, Nat.reduceLeDiff, Nat.reduceLT, Nat.reduceAdd, Nat.reduceEqDiff, false_and, and_false, exists_const, exists_eq_left, exists_eq_left', exists_and_left, and_assoc, nltL, nltR, nleL, nleR, neqL, neqR, naL, naR, nmL, nmR, nI_ltI, nI_leI, nI_eq, nI_add, nI_mul, nI_clamp, n0l, n0r, nm1, nm1', nm1l, nm1r, nm1g, nsL, nI_m1, Nat.add_sub_cancel, vpn, vpL, nclL, le32, leLL, leLN, leNL, leNN, inA, nb0, nb1, gi_wi_n, gi_wi_e, gi_rw_n, gi_rw_e, aWi_rw, ifl, ifl_, ifle, ifle_, ifq, ifq_, ifnq, ifnq_, ifnl, ifnl_, ifnle, ifnle_, Nat.le_refl]
    exact h1 e
theorem c_isWhole (rc : RcC h B T p s) (so : RsOk s) (h1 : whP s → Q (some (.int 1)) h) (h2 : ¬ whP s → Q (some (.int 0)) h) : AW (d + 1) 86 0 [some (.ref 36), none] [] h Q := by
  have ok := rc.1.1
  obtain ⟨l1, l2, -, o4, o5, o6⟩ := id so
  have r5 := rc.2.2.2.2.1
  have r6 := rc.2.2.2.2.2.1
  have r7 := rc.2.2.2.2.2.2.1 0 (by omega)
  have r8 := rc.2.2.2.2.2.2.2.1
  have r9 := rc.2.2.2.2.2.2.2.2
  have b0 : s.2.1 0 ≤ 30 := (o4 0 (by omega)).2
  simp (disch := omega) only [s86_0, s86_1, true_or, or_true, or_false, false_or, or_self, Int32.reduceLT, Int32.reduceLE, Nat.add_zero, Nat.zero_add, Nat.not_lt_zero, not_false_eq_true, not_true_eq_false, and_assoc, kl_q, kl_i, kl_r, kl_n, kl_0, kl_l, cs_0, cs_i, cs_r, cs_n, cs_l, aRf_s, aRf_n, gi_wl, gi_wr, gl_wi, gl_wl, gl_wr, gr_wi, gr_wl, gr_wr, sh_wi, sh_wl, sh_wr, gl_cp, gr_cp, sh_cp, gl_rw, gr_rw, sh_rw, gi_rl, gr_rl, sh_rl, Option.toList_some, Option.toList_none, List.nil_append, List.cons_append, List.append_nil, Option.some.injEq, Prod.mk.injEq, and_true, true_and, and_self, if_true, if_false, reduceCtorEq, Nat.reduceLeDiff, Nat.reduceLT, Nat.reduceAdd, Nat.reduceEqDiff, false_and, and_false, exists_const, exists_eq_left, exists_eq_left', exists_and_left, and_assoc, nltL, nltR, nleL, nleR, neqL, neqR, naL, naR, nmL, nmR, nI_ltI, nI_leI, nI_eq, nI_add, nI_mul, nI_clamp, n0l, n0r, nm1, nm1', nm1l, nm1r, nm1g, nsL, nI_m1, Nat.add_sub_cancel, vpn, vpL, nclL, le32, leLL, leLN, leNL, leNN, inA, nb0, nb1, gi_wi_n, gi_wi_e, gi_rw_n, gi_rw_e, aWi_rw, ifl, ifl_, ifle, ifle_, ifq, ifq_, ifnq, ifnq_, ifnl, ifnl_, ifnle, ifnle_]
  refine aLoop s.2.2.1.length (fun j lv h' => lv = [some (.ref 36), some (.int (nI j))] ∧ h' = h ∧ ∀ k, k < j → mf s.2.2.1 k 0 ≤ s.2.1 0) ?_ ?_ 0 _ _ (Nat.zero_le _) ⟨rfl, rfl, fun o ho => absurd ho (Nat.not_lt_zero _)⟩
  · rintro j lv h' hj ⟨rfl, rfl, e⟩ hk'
    obtain ⟨g1, s1⟩ := r38i (i := j) ok (by omega)
    have v1 := r8 j hj 0 (by omega)
    have b1 : mf s.2.2.1 j 0 ≤ 30 := o5 j hj 0 (by omega)
    have n1 : ¬ s.2.2.1.length ≤ j := by omega
    have j6 : j < 6 := by omega
    rw [s86_2]
    by_cases he : mf s.2.2.1 j 0 ≤ s.2.1 0
    · simp (disch := omega) only [s86_3, s86_4, s86_7, s86_10, s86_11, s86_14, s86_15, s86_16, s86_17, s86_18, s86_19, s86_22, s86_23, s86_24, s86_27, s86_28, s86_29, s86_32, true_or, or_true, or_false, false_or, or_self, Int32.reduceLT, Int32.reduceLE, Nat.add_zero, Nat.zero_add, Nat.not_lt_zero, not_false_eq_true, not_true_eq_false, and_assoc, kl_q, kl_i, kl_r, kl_n, kl_0, kl_l, cs_0, cs_i, cs_r, cs_n, cs_l, aRf_s, aRf_n, gi_wl, gi_wr, gl_wi, gl_wl, gl_wr, gr_wi, gr_wl, gr_wr, sh_wi, sh_wl, sh_wr, gl_cp, gr_cp, sh_cp, gl_rw, gr_rw, sh_rw, gi_rl, gr_rl, sh_rl, Option.toList_some, Option.toList_none, List.nil_append, List.cons_append, List.append_nil, Option.some.injEq, Prod.mk.injEq, and_true, true_and, and_self, if_true, if_false, reduceCtorEq, Nat.reduceLeDiff, Nat.reduceLT, Nat.reduceAdd, Nat.reduceEqDiff, false_and, and_false, exists_const, exists_eq_left, exists_eq_left', exists_and_left, and_assoc, nltL, nltR, nleL, nleR, neqL, neqR, naL, naR, nmL, nmR, nI_ltI, nI_leI, nI_eq, nI_add, nI_mul, nI_clamp, n0l, n0r, nm1, nm1', nm1l, nm1r, nm1g, nsL, nI_m1, Nat.add_sub_cancel, vpn, vpL, nclL, le32, leLL, leLN, leNL, leNN, inA, nb0, nb1, gi_wi_n, gi_wi_e, gi_rw_n, gi_rw_e, aWi_rw, ifl, ifl_, ifle, ifle_, ifq, ifq_, ifnq, ifnq_, ifnl, ifnl_, ifnle, ifnle_, z36 ok, z37 ok, z38 ok, r36_0 ok, r36_1 ok, n1, j6, g1, s1, v1, r5, r7, he]
      refine hk' _ _ ⟨rfl, rfl, fun o ho => ?_⟩
      by_cases hoj : o = j
      · rw [hoj]
        exact he
      · exact e o (by omega)
    · simp (disch := omega) only [s86_3, s86_4, s86_7, s86_10, s86_11, s86_14, s86_15, s86_16, s86_17, s86_18, s86_19, s86_22, s86_23, s86_24, s86_27, s86_28, s86_29, s86_32, true_or, or_true, or_false, false_or, or_self, Int32.reduceLT, Int32.reduceLE, Nat.add_zero, Nat.zero_add, Nat.not_lt_zero, not_false_eq_true, not_true_eq_false, and_assoc, kl_q, kl_i, kl_r, kl_n, kl_0, kl_l, cs_0, cs_i, cs_r, cs_n, cs_l, aRf_s, aRf_n, gi_wl, gi_wr, gl_wi, gl_wl, gl_wr, gr_wi, gr_wl, gr_wr, sh_wi, sh_wl, sh_wr, gl_cp, gr_cp, sh_cp, gl_rw, gr_rw, sh_rw, gi_rl, gr_rl, sh_rl, Option.toList_some, Option.toList_none, List.nil_append, List.cons_append, List.append_nil, Option.some.injEq, Prod.mk.injEq, and_true, true_and, and_self, if_true, if_false, reduceCtorEq, Nat.reduceLeDiff, Nat.reduceLT, Nat.reduceAdd, Nat.reduceEqDiff, false_and, and_false, exists_const, exists_eq_left, exists_eq_left', exists_and_left, and_assoc, nltL, nltR, nleL, nleR, neqL, neqR, naL, naR, nmL, nmR, nI_ltI, nI_leI, nI_eq, nI_add, nI_mul, nI_clamp, n0l, n0r, nm1, nm1', nm1l, nm1r, nm1g, nsL, nI_m1, Nat.add_sub_cancel, vpn, vpL, nclL, le32, leLL, leLN, leNL, leNN, inA, nb0, nb1, gi_wi_n, gi_wi_e, gi_rw_n, gi_rw_e, aWi_rw, ifl, ifl_, ifle, ifle_, ifq, ifq_, ifnq, ifnq_, ifnl, ifnl_, ifnle, ifnle_, z36 ok, z37 ok, z38 ok, r36_0 ok, r36_1 ok, n1, j6, g1, s1, v1, r5, r7, he]
      exact h2 (fun z => he (z.2.1 j hj))
  · rintro lv h' ⟨rfl, rfl, e⟩
    rw [s86_2]
    simp (disch := omega) only [s86_3, s86_4, s86_7, s86_10, s86_11, s86_14, s86_15, s86_16, s86_17, s86_18, s86_19, s86_22, s86_23, s86_24, s86_27, s86_28, s86_29, s86_32, s86_35, s86_36, true_or, or_true, or_false, false_or, or_self, Int32.reduceLT, Int32.reduceLE, Nat.add_zero, Nat.zero_add, Nat.not_lt_zero, not_false_eq_true, not_true_eq_false, and_assoc, kl_q, kl_i, kl_r, kl_n, kl_0, kl_l, cs_0, cs_i, cs_r, cs_n, cs_l, aRf_s, aRf_n, gi_wl, gi_wr, gl_wi, gl_wl, gl_wr, gr_wi, gr_wl, gr_wr, sh_wi, sh_wl, sh_wr, gl_cp, gr_cp, sh_cp, gl_rw, gr_rw, sh_rw, gi_rl, gr_rl, sh_rl, Option.toList_some, Option.toList_none, List.nil_append, List.cons_append, List.append_nil, Option.some.injEq, Prod.mk.injEq, and_true, true_and, and_self, if_true, if_false, reduceCtorEq, Nat.reduceLeDiff, Nat.reduceLT, Nat.reduceAdd, Nat.reduceEqDiff, false_and, and_false, exists_const, exists_eq_left, exists_eq_left', exists_and_left, and_assoc, nltL, nltR, nleL, nleR, neqL, neqR, naL, naR, nmL, nmR, nI_ltI, nI_leI, nI_eq, nI_add, nI_mul, nI_clamp, n0l, n0r, nm1, nm1', nm1l, nm1r, nm1g, nsL, nI_m1, Nat.add_sub_cancel, vpn, vpL, nclL, le32, leLL, leLN, leNL, leNN, inA, nb0, nb1, gi_wi_n, gi_wi_e, gi_rw_n, gi_rw_e, aWi_rw, ifl, ifl_, ifle, ifle_, ifq, ifq_, ifnq, ifnq_, ifnl, ifnl_, ifnle, ifnle_, z36 ok, r5, Nat.le_refl]
    refine aLoop s.2.2.2.length (fun j lv h2' => lv = [some (.ref 36), some (.int (nI j))] ∧ h2' = h' ∧ ∀ k, k < j → mf s.2.2.2 k 0 ≤ s.2.1 0 ∧ ∀ o, o < k → ¬ mf s.2.2.2 o 0 = mf s.2.2.2 k 0) ?_ ?_ 0 _ _ (Nat.zero_le _) ⟨rfl, rfl, fun o ho => absurd ho (Nat.not_lt_zero _)⟩
    · rintro j lv h' hj ⟨rfl, rfl, e2⟩ hk'
      obtain ⟨g1, s1⟩ := r45i (i := j) ok (by omega)
      have v1 := r9 j hj 0 (by omega)
      have b1 : mf s.2.2.2 j 0 ≤ 30 := o6 j hj 0 (by omega)
      have n1 : ¬ s.2.2.2.length ≤ j := by omega
      have j5 : j < 5 := by omega
      rw [s86_37]
      by_cases he : mf s.2.2.2 j 0 ≤ s.2.1 0
      · have n2 : ¬ s.2.1 0 < mf s.2.2.2 j 0 := by omega
        simp (disch := omega) only [s86_38, s86_39, s86_42, s86_45, s86_46, s86_49, s86_50, s86_51, s86_52, s86_53, s86_54, s86_57, s86_58, s86_59, s86_62, s86_63, s86_64, true_or, or_true, or_false, false_or, or_self, Int32.reduceLT, Int32.reduceLE, Nat.add_zero, Nat.zero_add, Nat.not_lt_zero, not_false_eq_true, not_true_eq_false, and_assoc, kl_q, kl_i, kl_r, kl_n, kl_0, kl_l, cs_0, cs_i, cs_r, cs_n, cs_l, aRf_s, aRf_n, gi_wl, gi_wr, gl_wi, gl_wl, gl_wr, gr_wi, gr_wl, gr_wr, sh_wi, sh_wl, sh_wr, gl_cp, gr_cp, sh_cp, gl_rw, gr_rw, sh_rw, gi_rl, gr_rl, sh_rl, Option.toList_some, Option.toList_none, List.nil_append, List.cons_append, List.append_nil, Option.some.injEq, Prod.mk.injEq, and_true, true_and, and_self, if_true, if_false, reduceCtorEq, Nat.reduceLeDiff, Nat.reduceLT, Nat.reduceAdd, Nat.reduceEqDiff, false_and, and_false, exists_const, exists_eq_left, exists_eq_left', exists_and_left, and_assoc, nltL, nltR, nleL, nleR, neqL, neqR, naL, naR, nmL, nmR, nI_ltI, nI_leI, nI_eq, nI_add, nI_mul, nI_clamp, n0l, n0r, nm1, nm1', nm1l, nm1r, nm1g, nsL, nI_m1, Nat.add_sub_cancel, vpn, vpL, nclL, le32, leLL, leLN, leNL, leNN, inA, nb0, nb1, gi_wi_n, gi_wi_e, gi_rw_n, gi_rw_e, aWi_rw, ifl, ifl_, ifle, ifle_, ifq, ifq_, ifnq, ifnq_, ifnl, ifnl_, ifnle, ifnle_, z36 ok, z37 ok, z45 ok, r36_0 ok, r36_2 ok, n1, j5, g1, s1, v1, r6, r7, n2]
        refine c_hasFord rc so hj (fun z => ?_) (fun z => ?_)
        · simp (disch := omega) only [s86_64, s86_67, s86_70, s86_71, s86_72, s86_75, true_or, or_true, or_false, false_or, or_self, Int32.reduceLT, Int32.reduceLE, Nat.add_zero, Nat.zero_add, Nat.not_lt_zero, not_false_eq_true, not_true_eq_false, and_assoc, kl_q, kl_i, kl_r, kl_n, kl_0, kl_l, cs_0, cs_i, cs_r, cs_n, cs_l, aRf_s, aRf_n, gi_wl, gi_wr, gl_wi, gl_wl, gl_wr, gr_wi, gr_wl, gr_wr, sh_wi, sh_wl, sh_wr, gl_cp, gr_cp, sh_cp, gl_rw, gr_rw, sh_rw, gi_rl, gr_rl, sh_rl, Option.toList_some, Option.toList_none, List.nil_append, List.cons_append, List.append_nil, Option.some.injEq, Prod.mk.injEq, and_true, true_and, and_self, if_true, if_false, reduceCtorEq, Nat.reduceLeDiff, Nat.reduceLT, Nat.reduceAdd, Nat.reduceEqDiff, false_and, and_false, exists_const, exists_eq_left, exists_eq_left', exists_and_left, and_assoc, nltL, nltR, nleL, nleR, neqL, neqR, naL, naR, nmL, nmR, nI_ltI, nI_leI, nI_eq, nI_add, nI_mul, nI_clamp, n0l, n0r, nm1, nm1', nm1l, nm1r, nm1g, nsL, nI_m1, Nat.add_sub_cancel, vpn, vpL, nclL, le32, leLL, leLN, leNL, leNN, inA, nb0, nb1, gi_wi_n, gi_wi_e, gi_rw_n, gi_rw_e, aWi_rw, ifl, ifl_, ifle, ifle_, ifq, ifq_, ifnq, ifnq_, ifnl, ifnl_, ifnle, ifnle_]
          refine hk' _ _ ⟨rfl, rfl, fun o ho => ?_⟩
          by_cases hoj : o = j
          · rw [hoj]
            exact ⟨he, z⟩
          · exact e2 o (by omega)
        · simp (disch := omega) only [s86_64, s86_67, s86_70, s86_71, s86_72, s86_75, true_or, or_true, or_false, false_or, or_self, Int32.reduceLT, Int32.reduceLE, Nat.add_zero, Nat.zero_add, Nat.not_lt_zero, not_false_eq_true, not_true_eq_false, and_assoc, kl_q, kl_i, kl_r, kl_n, kl_0, kl_l, cs_0, cs_i, cs_r, cs_n, cs_l, aRf_s, aRf_n, gi_wl, gi_wr, gl_wi, gl_wl, gl_wr, gr_wi, gr_wl, gr_wr, sh_wi, sh_wl, sh_wr, gl_cp, gr_cp, sh_cp, gl_rw, gr_rw, sh_rw, gi_rl, gr_rl, sh_rl, Option.toList_some, Option.toList_none, List.nil_append, List.cons_append, List.append_nil, Option.some.injEq, Prod.mk.injEq, and_true, true_and, and_self, if_true, if_false, reduceCtorEq, Nat.reduceLeDiff, Nat.reduceLT, Nat.reduceAdd, Nat.reduceEqDiff, false_and, and_false, exists_const, exists_eq_left, exists_eq_left', exists_and_left, and_assoc, nltL, nltR, nleL, nleR, neqL, neqR, naL, naR, nmL, nmR, nI_ltI, nI_leI, nI_eq, nI_add, nI_mul, nI_clamp, n0l, n0r, nm1, nm1', nm1l, nm1r, nm1g, nsL, nI_m1, Nat.add_sub_cancel, vpn, vpL, nclL, le32, leLL, leLN, leNL, leNN, inA, nb0, nb1, gi_wi_n, gi_wi_e, gi_rw_n, gi_rw_e, aWi_rw, ifl, ifl_, ifle, ifle_, ifq, ifq_, ifnq, ifnq_, ifnl, ifnl_, ifnle, ifnle_]
          obtain ⟨o, ho, z⟩ := z
          exact h2 (fun w => (w.2.2 j hj).2 o ho z)
      · have n2 : s.2.1 0 < mf s.2.2.2 j 0 := by omega
        simp (disch := omega) only [s86_38, s86_39, s86_42, s86_45, s86_46, s86_49, s86_50, s86_51, s86_52, s86_53, s86_54, s86_57, s86_58, s86_59, s86_62, s86_63, s86_64, s86_67, s86_70, s86_71, s86_72, s86_75, true_or, or_true, or_false, false_or, or_self, Int32.reduceLT, Int32.reduceLE, Nat.add_zero, Nat.zero_add, Nat.not_lt_zero, not_false_eq_true, not_true_eq_false, and_assoc, kl_q, kl_i, kl_r, kl_n, kl_0, kl_l, cs_0, cs_i, cs_r, cs_n, cs_l, aRf_s, aRf_n, gi_wl, gi_wr, gl_wi, gl_wl, gl_wr, gr_wi, gr_wl, gr_wr, sh_wi, sh_wl, sh_wr, gl_cp, gr_cp, sh_cp, gl_rw, gr_rw, sh_rw, gi_rl, gr_rl, sh_rl, Option.toList_some, Option.toList_none, List.nil_append, List.cons_append, List.append_nil, Option.some.injEq, Prod.mk.injEq, and_true, true_and, and_self, if_true, if_false, reduceCtorEq, Nat.reduceLeDiff, Nat.reduceLT, Nat.reduceAdd, Nat.reduceEqDiff, false_and, and_false, exists_const, exists_eq_left, exists_eq_left', exists_and_left, and_assoc, nltL, nltR, nleL, nleR, neqL, neqR, naL, naR, nmL, nmR, nI_ltI, nI_leI, nI_eq, nI_add, nI_mul, nI_clamp, n0l, n0r, nm1, nm1', nm1l, nm1r, nm1g, nsL, nI_m1, Nat.add_sub_cancel, vpn, vpL, nclL, le32, leLL, leLN, leNL, leNN, inA, nb0, nb1, gi_wi_n, gi_wi_e, gi_rw_n, gi_rw_e, aWi_rw, ifl, ifl_, ifle, ifle_, ifq, ifq_, ifnq, ifnq_, ifnl, ifnl_, ifnle, ifnle_, z36 ok, z37 ok, z45 ok, r36_0 ok, r36_2 ok, n1, j5, g1, s1, v1, r6, r7, n2]
        exact h2 (fun w => he (w.2.2 j hj).1)
    · rintro lv h' ⟨rfl, rfl, e2⟩
      rw [s86_37]
      by_cases hm : s.2.2.1.length = 0
      · simp (disch := omega) only [s86_38, s86_39, s86_42, s86_45, s86_46, s86_49, s86_50, s86_51, s86_52, s86_53, s86_54, s86_57, s86_58, s86_59, s86_62, s86_63, s86_64, s86_67, s86_70, s86_71, s86_72, s86_75, s86_78, s86_79, s86_82, s86_85, s86_86, s86_89, s86_90, true_or, or_true, or_false, false_or, or_self, Int32.reduceLT, Int32.reduceLE, Nat.add_zero, Nat.zero_add, Nat.not_lt_zero, not_false_eq_true, not_true_eq_false, and_assoc, kl_q, kl_i, kl_r, kl_n, kl_0, kl_l, cs_0, cs_i, cs_r, cs_n, cs_l, aRf_s, aRf_n, gi_wl, gi_wr, gl_wi, gl_wl, gl_wr, gr_wi, gr_wl, gr_wr, sh_wi, sh_wl, sh_wr, gl_cp, gr_cp, sh_cp, gl_rw, gr_rw, sh_rw, gi_rl, gr_rl, sh_rl, Option.toList_some, Option.toList_none, List.nil_append, List.cons_append, List.append_nil, Option.some.injEq, Prod.mk.injEq, and_true, true_and, and_self, if_true, if_false, reduceCtorEq, Nat.reduceLeDiff, Nat.reduceLT, Nat.reduceAdd, Nat.reduceEqDiff, false_and, and_false, exists_const, exists_eq_left, exists_eq_left', exists_and_left, and_assoc, nltL, nltR, nleL, nleR, neqL, neqR, naL, naR, nmL, nmR, nI_ltI, nI_leI, nI_eq, nI_add, nI_mul, nI_clamp, n0l, n0r, nm1, nm1', nm1l, nm1r, nm1g, nsL, nI_m1, Nat.add_sub_cancel, vpn, vpL, nclL, le32, leLL, leLN, leNL, leNN, inA, nb0, nb1, gi_wi_n, gi_wi_e, gi_rw_n, gi_rw_e, aWi_rw, ifl, ifl_, ifle, ifle_, ifq, ifq_, ifnq, ifnq_, ifnl, ifnl_, ifnle, ifnle_, z36 ok, r5, r6, Nat.le_refl, hm, show nI 0 = (0 : Int32) from rfl, Int32.le_refl]
        exact h2 (fun w => by have := w.1; omega)
      · have n3 : ¬ s.2.2.1.length ≤ 0 := by omega
        simp (disch := omega) only [s86_38, s86_39, s86_42, s86_45, s86_46, s86_49, s86_50, s86_51, s86_52, s86_53, s86_54, s86_57, s86_58, s86_59, s86_62, s86_63, s86_64, s86_67, s86_70, s86_71, s86_72, s86_75, s86_78, s86_79, s86_82, s86_85, s86_86, s86_89, s86_90, true_or, or_true, or_false, false_or, or_self, Int32.reduceLT, Int32.reduceLE, Nat.add_zero, Nat.zero_add, Nat.not_lt_zero, not_false_eq_true, not_true_eq_false, and_assoc, kl_q, kl_i, kl_r, kl_n, kl_0, kl_l, cs_0, cs_i, cs_r, cs_n, cs_l, aRf_s, aRf_n, gi_wl, gi_wr, gl_wi, gl_wl, gl_wr, gr_wi, gr_wl, gr_wr, sh_wi, sh_wl, sh_wr, gl_cp, gr_cp, sh_cp, gl_rw, gr_rw, sh_rw, gi_rl, gr_rl, sh_rl, Option.toList_some, Option.toList_none, List.nil_append, List.cons_append, List.append_nil, Option.some.injEq, Prod.mk.injEq, and_true, true_and, and_self, if_true, if_false, reduceCtorEq, Nat.reduceLeDiff, Nat.reduceLT, Nat.reduceAdd, Nat.reduceEqDiff, false_and, and_false, exists_const, exists_eq_left, exists_eq_left', exists_and_left, and_assoc, nltL, nltR, nleL, nleR, neqL, neqR, naL, naR, nmL, nmR, nI_ltI, nI_leI, nI_eq, nI_add, nI_mul, nI_clamp, n0l, n0r, nm1, nm1', nm1l, nm1r, nm1g, nsL, nI_m1, Nat.add_sub_cancel, vpn, vpL, nclL, le32, leLL, leLN, leNL, leNN, inA, nb0, nb1, gi_wi_n, gi_wi_e, gi_rw_n, gi_rw_e, aWi_rw, ifl, ifl_, ifle, ifle_, ifq, ifq_, ifnq, ifnq_, ifnl, ifnl_, ifnle, ifnle_, z36 ok, r5, r6, Nat.le_refl, n3]
        exact h1 ⟨by omega, e, e2⟩
end D3
