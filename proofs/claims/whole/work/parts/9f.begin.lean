-- deps: 9e.klaw
/-! ===== a ride begins ===== -/
def svF (s : RS) (k : Nat) : Int32 := if k < 6 then nI (mf s.2.2.1 k 0) else if k < 12 then nI (mf s.2.2.1 (k - 6) 1) else if k < 18 then nI (mf s.2.2.1 (k - 12) 2) else if k < 24 then 0 else if k < 29 then nI (mf s.2.2.2 (k - 24) 1) else if k = 29 then nI (s.2.1 1) else if k = 30 then nI (s.2.1 3) else if k = 31 then nI (s.2.1 4) else 0
section B1
variable {d : Nat} {h : aM} {Q : Option Value → aM → Prop} {B : Nat → Nat} {T p : Nat} {s : RS}
theorem r60i {i : Nat} (ok : OK h) (hi : i < 6) : gr h 60 i = some (61 + i) ∧ sh h (61 + i) = some (100, 4) := by
  have : i = 0 ∨ i = 1 ∨ i = 2 ∨ i = 3 ∨ i = 4 ∨ i = 5 := by omega
  rcases this with rfl | rfl | rfl | rfl | rfl | rfl
  · exact ⟨r60_0 ok, z61 ok⟩
  · exact ⟨r60_1 ok, z62 ok⟩
  · exact ⟨r60_2 ok, z63 ok⟩
  · exact ⟨r60_3 ok, z64 ok⟩
  · exact ⟨r60_4 ok, z65 ok⟩
  · exact ⟨r60_5 ok, z66 ok⟩
theorem r67i {i : Nat} (ok : OK h) (hi : i < 5) : gr h 67 i = some (68 + i) ∧ sh h (68 + i) = some (100, 2) := by
  have : i = 0 ∨ i = 1 ∨ i = 2 ∨ i = 3 ∨ i = 4 := by omega
  rcases this with rfl | rfl | rfl | rfl | rfl
  · exact ⟨r67_0 ok, z68 ok⟩
  · exact ⟨r67_1 ok, z69 ok⟩
  · exact ⟨r67_2 ok, z70 ok⟩
  · exact ⟨r67_3 ok, z71 ok⟩
  · exact ⟨r67_4 ok, z72 ok⟩
theorem c_toldCopy (ok : OK h) (hq : ∀ h', Ag (fun a _ => 58 ≤ a ∧ a ≤ 72) h h' → (∀ k, k < 5 → gi h' 59 k = gi h 37 k) → (∀ i k, i < 6 → k < 4 → gi h' (61 + i) k = gi h (39 + i) k) → (∀ i k, i < 5 → k < 2 → gi h' (68 + i) k = gi h (46 + i) k) → gi h' 58 3 = gi h 36 3 → gi h' 58 4 = gi h 36 4 → Q none h') : AW (d + 2) 85 0 [some (.ref 58), some (.ref 36), none] [] h Q := by
  simp (disch := omega) only [s85_0, s85_0n, s85_1, s85_4, s85_4n, s85_5, s85_8, true_or, or_true, or_false, false_or, or_self, Int32.reduceLT, Int32.reduceLE, Nat.add_zero, Nat.zero_add, Nat.not_lt_zero, not_false_eq_true, not_true_eq_false, and_assoc, kl_q, kl_i, kl_r, kl_n, kl_0, kl_l, cs_0, cs_i, cs_r, cs_n, cs_l, aRf_s, aRf_n, gi_wl, gi_wr, gl_wi, gl_wl, gl_wr, gr_wi, gr_wl, gr_wr, sh_wi, sh_wl, sh_wr, gl_cp, gr_cp, sh_cp, gl_rw, gr_rw, sh_rw, gi_rl, gr_rl, sh_rl, Option.toList_some, Option.toList_none, List.nil_append, List.cons_append, List.append_nil, Option.some.injEq, Prod.mk.injEq, and_true, true_and, and_self, if_true, if_false, reduceCtorEq, Nat.reduceLeDiff, Nat.reduceLT, Nat.reduceAdd, Nat.reduceEqDiff, false_and, and_false, exists_const, exists_eq_left, exists_eq_left', exists_and_left, and_assoc, nltL, nltR, nleL, nleR, neqL, neqR, naL, naR, nmL, nmR, nI_ltI, nI_leI, nI_eq, nI_add, nI_mul, nI_clamp, n0l, n0r, nm1, nm1', nm1l, nm1r, nm1g, nsL, nI_m1, Nat.add_sub_cancel, vpn, vpL, nclL, le32, leLL, leLN, leNL, leNN, inA, nb0, nb1, gi_wi_n, gi_wi_e, gi_rw_n, gi_rw_e, aWi_rw, ifl, ifl_, ifle, ifle_, ifq, ifq_, ifnq, ifnq_, ifnl, ifnl_, ifnle, ifnle_, z36 ok, z58 ok, r36_0 ok, r58_0 ok]
  rw [sp_row (n := 5) (z37 ok) (z59 ok) (by omega) (by decide), aCp_rw]
  simp (disch := omega) only [s85_8, s85_11, s85_12, true_or, or_true, or_false, false_or, or_self, Int32.reduceLT, Int32.reduceLE, Nat.add_zero, Nat.zero_add, Nat.not_lt_zero, not_false_eq_true, not_true_eq_false, and_assoc, kl_q, kl_i, kl_r, kl_n, kl_0, kl_l, cs_0, cs_i, cs_r, cs_n, cs_l, aRf_s, aRf_n, gi_wl, gi_wr, gl_wi, gl_wl, gl_wr, gr_wi, gr_wl, gr_wr, sh_wi, sh_wl, sh_wr, gl_cp, gr_cp, sh_cp, gl_rw, gr_rw, sh_rw, gi_rl, gr_rl, sh_rl, Option.toList_some, Option.toList_none, List.nil_append, List.cons_append, List.append_nil, Option.some.injEq, Prod.mk.injEq, and_true, true_and, and_self, if_true, if_false, reduceCtorEq, Nat.reduceLeDiff, Nat.reduceLT, Nat.reduceAdd, Nat.reduceEqDiff, false_and, and_false, exists_const, exists_eq_left, exists_eq_left', exists_and_left, and_assoc, nltL, nltR, nleL, nleR, neqL, neqR, naL, naR, nmL, nmR, nI_ltI, nI_leI, nI_eq, nI_add, nI_mul, nI_clamp, n0l, n0r, nm1, nm1', nm1l, nm1r, nm1g, nsL, nI_m1, Nat.add_sub_cancel, vpn, vpL, nclL, le32, leLL, leLN, leNL, leNN, inA, nb0, nb1, gi_wi_n, gi_wi_e, gi_rw_n, gi_rw_e, aWi_rw, ifl, ifl_, ifle, ifle_, ifq, ifq_, ifnq, ifnq_, ifnl, ifnl_, ifnle, ifnle_]
  obtain ⟨h1, eh1⟩ : ∃ h1, h1 = aRw h 59 (fun j => if j < 5 then gi h 37 j else gi h 59 j) := ⟨_, rfl⟩
  rw [← eh1]
  have a1 : Ag (fun a _ => 58 ≤ a ∧ a ≤ 72) h h1 := by
    rw [eh1]
    exact (Ag.refl ok).rw (fun k => by omega)
  have f1 : ∀ k, k < 5 → gi h1 59 k = gi h 37 k := fun k hk => by rw [eh1, gi_rw_e, if_pos hk]
  refine aLoop 6 (fun j lv h' => lv = [some (.ref 58), some (.ref 36), some (.int (nI j))] ∧ Ag (fun a _ => 58 ≤ a ∧ a ≤ 72) h h' ∧ (∀ k, gi h' 59 k = gi h1 59 k) ∧ ∀ i k, i < j → k < 4 → gi h' (61 + i) k = gi h (39 + i) k) ?_ ?_ 0 _ _ (Nat.zero_le _) ⟨rfl, a1, fun _ => rfl, fun i k hi => absurd hi (Nat.not_lt_zero _)⟩
  · rintro j lv h' hj ⟨rfl, a2, e2, e3⟩ hk
    have ok := a2.1
    obtain ⟨g1, s1⟩ := r38i (i := j) ok hj
    obtain ⟨g2, s2⟩ := r60i (i := j) ok hj
    have n1 : ¬ 6 ≤ j := by omega
    rw [s85_13]
    simp (disch := omega) only [s85_14, s85_16, s85_19, s85_19n, s85_20, s85_23, s85_24, s85_25, s85_25n, s85_26, s85_29, s85_30, s85_31, true_or, or_true, or_false, false_or, or_self, Int32.reduceLT, Int32.reduceLE, Nat.add_zero, Nat.zero_add, Nat.not_lt_zero, not_false_eq_true, not_true_eq_false, and_assoc, kl_q, kl_i, kl_r, kl_n, kl_0, kl_l, cs_0, cs_i, cs_r, cs_n, cs_l, aRf_s, aRf_n, gi_wl, gi_wr, gl_wi, gl_wl, gl_wr, gr_wi, gr_wl, gr_wr, sh_wi, sh_wl, sh_wr, gl_cp, gr_cp, sh_cp, gl_rw, gr_rw, sh_rw, gi_rl, gr_rl, sh_rl, Option.toList_some, Option.toList_none, List.nil_append, List.cons_append, List.append_nil, Option.some.injEq, Prod.mk.injEq, and_true, true_and, and_self, if_true, if_false, reduceCtorEq, Nat.reduceLeDiff, Nat.reduceLT, Nat.reduceAdd, Nat.reduceEqDiff, false_and, and_false, exists_const, exists_eq_left, exists_eq_left', exists_and_left, and_assoc, nltL, nltR, nleL, nleR, neqL, neqR, naL, naR, nmL, nmR, nI_ltI, nI_leI, nI_eq, nI_add, nI_mul, nI_clamp, n0l, n0r, nm1, nm1', nm1l, nm1r, nm1g, nsL, nI_m1, Nat.add_sub_cancel, vpn, vpL, nclL, le32, leLL, leLN, leNL, leNN, inA, nb0, nb1, gi_wi_n, gi_wi_e, gi_rw_n, gi_rw_e, aWi_rw, ifl, ifl_, ifle, ifle_, ifq, ifq_, ifnq, ifnq_, ifnl, ifnl_, ifnle, ifnle_, z36 ok, z38 ok, z58 ok, z60 ok, r36_1 ok, r58_1 ok, n1, hj, g1, g2]
    rw [sp_row (n := 4) s1 s2 (by omega) (by decide), aCp_rw]
    simp (disch := omega) only [s85_31, s85_34, s85_37, true_or, or_true, or_false, false_or, or_self, Int32.reduceLT, Int32.reduceLE, Nat.add_zero, Nat.zero_add, Nat.not_lt_zero, not_false_eq_true, not_true_eq_false, and_assoc, kl_q, kl_i, kl_r, kl_n, kl_0, kl_l, cs_0, cs_i, cs_r, cs_n, cs_l, aRf_s, aRf_n, gi_wl, gi_wr, gl_wi, gl_wl, gl_wr, gr_wi, gr_wl, gr_wr, sh_wi, sh_wl, sh_wr, gl_cp, gr_cp, sh_cp, gl_rw, gr_rw, sh_rw, gi_rl, gr_rl, sh_rl, Option.toList_some, Option.toList_none, List.nil_append, List.cons_append, List.append_nil, Option.some.injEq, Prod.mk.injEq, and_true, true_and, and_self, if_true, if_false, reduceCtorEq, Nat.reduceLeDiff, Nat.reduceLT, Nat.reduceAdd, Nat.reduceEqDiff, false_and, and_false, exists_const, exists_eq_left, exists_eq_left', exists_and_left, and_assoc, nltL, nltR, nleL, nleR, neqL, neqR, naL, naR, nmL, nmR, nI_ltI, nI_leI, nI_eq, nI_add, nI_mul, nI_clamp, n0l, n0r, nm1, nm1', nm1l, nm1r, nm1g, nsL, nI_m1, Nat.add_sub_cancel, vpn, vpL, nclL, le32, leLL, leLN, leNL, leNN, inA, nb0, nb1, gi_wi_n, gi_wi_e, gi_rw_n, gi_rw_e, aWi_rw, ifl, ifl_, ifle, ifle_, ifq, ifq_, ifnq, ifnq_, ifnl, ifnl_, ifnle, ifnle_]
    refine hk _ _ ⟨rfl, a2.rw (fun k => by omega), fun k => ?_, fun i k hi hk2 => ?_⟩
    · rw [gi_rw_n (by omega), e2]
    · by_cases hij : i = j
      · subst hij
        rw [gi_rw_e, if_pos hk2, a2.2 _ _ (by omega)]
      · rw [gi_rw_n (by omega)]
        exact e3 i k (by omega) hk2
  · rintro lv h2 ⟨rfl, a2, e2, e3⟩
    have ok := a2.1
    rw [s85_13]
    simp (disch := omega) only [s85_14, s85_16, s85_19, s85_19n, s85_20, s85_23, s85_24, s85_25, s85_25n, s85_26, s85_29, s85_30, s85_31, s85_34, s85_37, s85_40, s85_41, true_or, or_true, or_false, false_or, or_self, Int32.reduceLT, Int32.reduceLE, Nat.add_zero, Nat.zero_add, Nat.not_lt_zero, not_false_eq_true, not_true_eq_false, and_assoc, kl_q, kl_i, kl_r, kl_n, kl_0, kl_l, cs_0, cs_i, cs_r, cs_n, cs_l, aRf_s, aRf_n, gi_wl, gi_wr, gl_wi, gl_wl, gl_wr, gr_wi, gr_wl, gr_wr, sh_wi, sh_wl, sh_wr, gl_cp, gr_cp, sh_cp, gl_rw, gr_rw, sh_rw, gi_rl, gr_rl, sh_rl, Option.toList_some, Option.toList_none, List.nil_append, List.cons_append, List.append_nil, Option.some.injEq, Prod.mk.injEq, and_true, true_and, and_self, if_true, if_false, reduceCtorEq, Nat.reduceLeDiff, Nat.reduceLT, Nat.reduceAdd, Nat.reduceEqDiff, false_and, and_false, exists_const, exists_eq_left, exists_eq_left', exists_and_left, and_assoc, nltL, nltR, nleL, nleR, neqL, neqR, naL, naR, nmL, nmR, nI_ltI, nI_leI, nI_eq, nI_add, nI_mul, nI_clamp, n0l, n0r, nm1, nm1', nm1l, nm1r, nm1g, nsL, nI_m1, Nat.add_sub_cancel, vpn, vpL, nclL, le32, leLL, leLN, leNL, leNN, inA, nb0, nb1, gi_wi_n, gi_wi_e, gi_rw_n, gi_rw_e, aWi_rw, ifl, ifl_, ifle, ifle_, ifq, ifq_, ifnq, ifnq_, ifnl, ifnl_, ifnle, ifnle_, Nat.le_refl]
    refine aLoop 5 (fun j lv h' => lv = [some (.ref 58), some (.ref 36), some (.int (nI j))] ∧ Ag (fun a _ => 58 ≤ a ∧ a ≤ 72) h h' ∧ (∀ a k, a ≤ 67 → gi h' a k = gi h2 a k) ∧ ∀ i k, i < j → k < 2 → gi h' (68 + i) k = gi h (46 + i) k) ?_ ?_ 0 _ _ (Nat.zero_le _) ⟨rfl, a2, fun _ _ _ => rfl, fun i k hi => absurd hi (Nat.not_lt_zero _)⟩
    · rintro j lv h' hj ⟨rfl, a3, e4, e5⟩ hk
      have ok := a3.1
      obtain ⟨g1, s1⟩ := r45i (i := j) ok hj
      obtain ⟨g2, s2⟩ := r67i (i := j) ok hj
      have n1 : ¬ 5 ≤ j := by omega
      rw [s85_42]
      simp (disch := omega) only [s85_43, s85_44, s85_47, s85_47n, s85_48, s85_51, s85_52, s85_53, s85_53n, s85_54, s85_57, s85_58, s85_59, true_or, or_true, or_false, false_or, or_self, Int32.reduceLT, Int32.reduceLE, Nat.add_zero, Nat.zero_add, Nat.not_lt_zero, not_false_eq_true, not_true_eq_false, and_assoc, kl_q, kl_i, kl_r, kl_n, kl_0, kl_l, cs_0, cs_i, cs_r, cs_n, cs_l, aRf_s, aRf_n, gi_wl, gi_wr, gl_wi, gl_wl, gl_wr, gr_wi, gr_wl, gr_wr, sh_wi, sh_wl, sh_wr, gl_cp, gr_cp, sh_cp, gl_rw, gr_rw, sh_rw, gi_rl, gr_rl, sh_rl, Option.toList_some, Option.toList_none, List.nil_append, List.cons_append, List.append_nil, Option.some.injEq, Prod.mk.injEq, and_true, true_and, and_self, if_true, if_false, reduceCtorEq, Nat.reduceLeDiff, Nat.reduceLT, Nat.reduceAdd, Nat.reduceEqDiff, false_and, and_false, exists_const, exists_eq_left, exists_eq_left', exists_and_left, and_assoc, nltL, nltR, nleL, nleR, neqL, neqR, naL, naR, nmL, nmR, nI_ltI, nI_leI, nI_eq, nI_add, nI_mul, nI_clamp, n0l, n0r, nm1, nm1', nm1l, nm1r, nm1g, nsL, nI_m1, Nat.add_sub_cancel, vpn, vpL, nclL, le32, leLL, leLN, leNL, leNN, inA, nb0, nb1, gi_wi_n, gi_wi_e, gi_rw_n, gi_rw_e, aWi_rw, ifl, ifl_, ifle, ifle_, ifq, ifq_, ifnq, ifnq_, ifnl, ifnl_, ifnle, ifnle_, z36 ok, z45 ok, z58 ok, z67 ok, r36_2 ok, r58_2 ok, n1, hj, g1, g2]
      rw [sp_row (n := 2) s1 s2 (by omega) (by decide), aCp_rw]
      simp (disch := omega) only [s85_59, s85_62, s85_65, true_or, or_true, or_false, false_or, or_self, Int32.reduceLT, Int32.reduceLE, Nat.add_zero, Nat.zero_add, Nat.not_lt_zero, not_false_eq_true, not_true_eq_false, and_assoc, kl_q, kl_i, kl_r, kl_n, kl_0, kl_l, cs_0, cs_i, cs_r, cs_n, cs_l, aRf_s, aRf_n, gi_wl, gi_wr, gl_wi, gl_wl, gl_wr, gr_wi, gr_wl, gr_wr, sh_wi, sh_wl, sh_wr, gl_cp, gr_cp, sh_cp, gl_rw, gr_rw, sh_rw, gi_rl, gr_rl, sh_rl, Option.toList_some, Option.toList_none, List.nil_append, List.cons_append, List.append_nil, Option.some.injEq, Prod.mk.injEq, and_true, true_and, and_self, if_true, if_false, reduceCtorEq, Nat.reduceLeDiff, Nat.reduceLT, Nat.reduceAdd, Nat.reduceEqDiff, false_and, and_false, exists_const, exists_eq_left, exists_eq_left', exists_and_left, and_assoc, nltL, nltR, nleL, nleR, neqL, neqR, naL, naR, nmL, nmR, nI_ltI, nI_leI, nI_eq, nI_add, nI_mul, nI_clamp, n0l, n0r, nm1, nm1', nm1l, nm1r, nm1g, nsL, nI_m1, Nat.add_sub_cancel, vpn, vpL, nclL, le32, leLL, leLN, leNL, leNN, inA, nb0, nb1, gi_wi_n, gi_wi_e, gi_rw_n, gi_rw_e, aWi_rw, ifl, ifl_, ifle, ifle_, ifq, ifq_, ifnq, ifnq_, ifnl, ifnl_, ifnle, ifnle_]
      refine hk _ _ ⟨rfl, a3.rw (fun k => by omega), fun a k ha => ?_, fun i k hi hk2 => ?_⟩
      · rw [gi_rw_n (by omega), e4 a k ha]
      · by_cases hij : i = j
        · subst hij
          rw [gi_rw_e, if_pos hk2, a3.2 _ _ (by omega)]
        · rw [gi_rw_n (by omega)]
          exact e5 i k (by omega) hk2
    · rintro lv h3 ⟨rfl, a3, e4, e5⟩
      have ok := a3.1
      rw [s85_42]
      simp (disch := omega) only [s85_43, s85_44, s85_47, s85_47n, s85_48, s85_51, s85_52, s85_53, s85_53n, s85_54, s85_57, s85_58, s85_59, s85_62, s85_65, s85_68, s85_68n, s85_69, s85_69n, s85_70, s85_73, s85_76, s85_76n, s85_77, s85_77n, s85_78, s85_81, s85_84, true_or, or_true, or_false, false_or, or_self, Int32.reduceLT, Int32.reduceLE, Nat.add_zero, Nat.zero_add, Nat.not_lt_zero, not_false_eq_true, not_true_eq_false, and_assoc, kl_q, kl_i, kl_r, kl_n, kl_0, kl_l, cs_0, cs_i, cs_r, cs_n, cs_l, aRf_s, aRf_n, gi_wl, gi_wr, gl_wi, gl_wl, gl_wr, gr_wi, gr_wl, gr_wr, sh_wi, sh_wl, sh_wr, gl_cp, gr_cp, sh_cp, gl_rw, gr_rw, sh_rw, gi_rl, gr_rl, sh_rl, Option.toList_some, Option.toList_none, List.nil_append, List.cons_append, List.append_nil, Option.some.injEq, Prod.mk.injEq, and_true, true_and, and_self, if_true, if_false, reduceCtorEq, Nat.reduceLeDiff, Nat.reduceLT, Nat.reduceAdd, Nat.reduceEqDiff, false_and, and_false, exists_const, exists_eq_left, exists_eq_left', exists_and_left, and_assoc, nltL, nltR, nleL, nleR, neqL, neqR, naL, naR, nmL, nmR, nI_ltI, nI_leI, nI_eq, nI_add, nI_mul, nI_clamp, n0l, n0r, nm1, nm1', nm1l, nm1r, nm1g, nsL, nI_m1, Nat.add_sub_cancel, vpn, vpL, nclL, le32, leLL, leLN, leNL, leNN, inA, nb0, nb1, gi_wi_n, gi_wi_e, gi_rw_n, gi_rw_e, aWi_rw, ifl, ifl_, ifle, ifle_, ifq, ifq_, ifnq, ifnq_, ifnl, ifnl_, ifnle, ifnle_, z36 ok, z58 ok, Nat.le_refl]
      refine hq _ ((a3.wi (by omega)).wi (by omega)) (fun k hk => ?_) (fun i k hi hk => ?_) (fun i k hi hk => ?_) ?_ ?_
      · rw [gi_wi_n (by omega), gi_wi_n (by omega), e4 _ _ (by omega), e2, f1 k hk]
      · rw [gi_wi_n (by omega), gi_wi_n (by omega), e4 _ _ (by omega)]
        exact e3 i k hi hk
      · rw [gi_wi_n (by omega), gi_wi_n (by omega)]
        exact e5 i k hi hk
      · rw [gi_wi_n (by omega), gi_wi_e, a3.2 _ _ (by omega)]
      · rw [gi_wi_e]
        exact a3.2 _ _ (by omega)
theorem c_begin (ok : OK h) (hq : ∀ h', Ag (fun a _ => 73 ≤ a ∧ a ≤ 78) h h' → (∀ k, k < 6 → gi h' 74 k = gi h (61 + k) 0 ∧ gi h' 75 k = gi h (61 + k) 1 ∧ gi h' 76 k = gi h (61 + k) 2 ∧ gi h' 77 k = 0) → (∀ k, k < 5 → gi h' 78 k = gi h (68 + k) 1) → gi h' 73 5 = gi h 59 1 → gi h' 73 6 = gi h 59 3 → gi h' 73 7 = gi h 59 4 → gi h' 73 8 = 0 → Q none h') : AW d 68 0 [some (.ref 73), some (.ref 58), none] [] h Q := by
  simp (disch := omega) only [s68_0, s68_1, true_or, or_true, or_false, false_or, or_self, Int32.reduceLT, Int32.reduceLE, Nat.add_zero, Nat.zero_add, Nat.not_lt_zero, not_false_eq_true, not_true_eq_false, and_assoc, kl_q, kl_i, kl_r, kl_n, kl_0, kl_l, cs_0, cs_i, cs_r, cs_n, cs_l, aRf_s, aRf_n, gi_wl, gi_wr, gl_wi, gl_wl, gl_wr, gr_wi, gr_wl, gr_wr, sh_wi, sh_wl, sh_wr, gl_cp, gr_cp, sh_cp, gl_rw, gr_rw, sh_rw, gi_rl, gr_rl, sh_rl, Option.toList_some, Option.toList_none, List.nil_append, List.cons_append, List.append_nil, Option.some.injEq, Prod.mk.injEq, and_true, true_and, and_self, if_true, if_false, reduceCtorEq, Nat.reduceLeDiff, Nat.reduceLT, Nat.reduceAdd, Nat.reduceEqDiff, false_and, and_false, exists_const, exists_eq_left, exists_eq_left', exists_and_left, and_assoc, nltL, nltR, nleL, nleR, neqL, neqR, naL, naR, nmL, nmR, nI_ltI, nI_leI, nI_eq, nI_add, nI_mul, nI_clamp, n0l, n0r, nm1, nm1', nm1l, nm1r, nm1g, nsL, nI_m1, Nat.add_sub_cancel, vpn, vpL, nclL, le32, leLL, leLN, leNL, leNN, inA, nb0, nb1, gi_wi_n, gi_wi_e, gi_rw_n, gi_rw_e, aWi_rw, ifl, ifl_, ifle, ifle_, ifq, ifq_, ifnq, ifnq_, ifnl, ifnl_, ifnle, ifnle_]
  refine aLoop 6 (fun j lv h' => lv = [some (.ref 73), some (.ref 58), some (.int (nI j))] ∧ Ag (fun a _ => 73 ≤ a ∧ a ≤ 78) h h' ∧ ∀ k, k < j → gi h' 74 k = gi h (61 + k) 0 ∧ gi h' 75 k = gi h (61 + k) 1 ∧ gi h' 76 k = gi h (61 + k) 2 ∧ gi h' 77 k = 0) ?_ ?_ 0 _ _ (Nat.zero_le _) ⟨rfl, Ag.refl ok, fun k hk => absurd hk (Nat.not_lt_zero _)⟩
  · rintro j lv h' hj ⟨rfl, a2, e2⟩ hk
    have ok := a2.1
    obtain ⟨g1, s1⟩ := r60i (i := j) ok hj
    have n1 : ¬ 6 ≤ j := by omega
    have v0 : gi h' (61 + j) 0 = gi h (61 + j) 0 := a2.2 _ _ (by omega)
    have v1 : gi h' (61 + j) 1 = gi h (61 + j) 1 := a2.2 _ _ (by omega)
    have v2 : gi h' (61 + j) 2 = gi h (61 + j) 2 := a2.2 _ _ (by omega)
    rw [s68_2]
    simp (disch := omega) only [s68_3, s68_5, s68_8, s68_8n, s68_9, s68_12, s68_13, s68_13n, s68_14, s68_17, s68_18, s68_19, s68_20, s68_21, s68_22, s68_22n, s68_23, s68_26, s68_27, s68_27n, s68_28, s68_31, s68_32, s68_33, s68_34, s68_35, s68_36, s68_36n, s68_37, s68_40, s68_41, s68_41n, s68_42, s68_45, s68_46, s68_47, s68_48, s68_49, s68_50, s68_50n, s68_51, s68_54, s68_55, s68_56, s68_57, s68_60, true_or, or_true, or_false, false_or, or_self, Int32.reduceLT, Int32.reduceLE, Nat.add_zero, Nat.zero_add, Nat.not_lt_zero, not_false_eq_true, not_true_eq_false, and_assoc, kl_q, kl_i, kl_r, kl_n, kl_0, kl_l, cs_0, cs_i, cs_r, cs_n, cs_l, aRf_s, aRf_n, gi_wl, gi_wr, gl_wi, gl_wl, gl_wr, gr_wi, gr_wl, gr_wr, sh_wi, sh_wl, sh_wr, gl_cp, gr_cp, sh_cp, gl_rw, gr_rw, sh_rw, gi_rl, gr_rl, sh_rl, Option.toList_some, Option.toList_none, List.nil_append, List.cons_append, List.append_nil, Option.some.injEq, Prod.mk.injEq, and_true, true_and, and_self, if_true, if_false, reduceCtorEq, Nat.reduceLeDiff, Nat.reduceLT, Nat.reduceAdd, Nat.reduceEqDiff, false_and, and_false, exists_const, exists_eq_left, exists_eq_left', exists_and_left, and_assoc, nltL, nltR, nleL, nleR, neqL, neqR, naL, naR, nmL, nmR, nI_ltI, nI_leI, nI_eq, nI_add, nI_mul, nI_clamp, n0l, n0r, nm1, nm1', nm1l, nm1r, nm1g, nsL, nI_m1, Nat.add_sub_cancel, vpn, vpL, nclL, le32, leLL, leLN, leNL, leNN, inA, nb0, nb1, gi_wi_n, gi_wi_e, gi_rw_n, gi_rw_e, aWi_rw, ifl, ifl_, ifle, ifle_, ifq, ifq_, ifnq, ifnq_, ifnl, ifnl_, ifnle, ifnle_, z73 ok, z58 ok, z60 ok, z74 ok, z75 ok, z76 ok, z77 ok, r73_0 ok, r73_1 ok, r73_2 ok, r73_3 ok, r58_1 ok, n1, hj, g1, s1, v0, v1, v2]
    refine hk _ _ ⟨rfl, (((a2.wi (by omega)).wi (by omega)).wi (by omega)).wi (by omega), fun k hk2 => ?_⟩
    by_cases hkj : k = j
    · subst hkj
      refine ⟨?_, ?_, ?_, ?_⟩
      · rw [gi_wi_n (by omega), gi_wi_n (by omega), gi_wi_n (by omega), gi_wi_e]
      · rw [gi_wi_n (by omega), gi_wi_n (by omega), gi_wi_e]
      · rw [gi_wi_n (by omega), gi_wi_e]
      · rw [gi_wi_e]
    · obtain ⟨x1, x2, x3, x4⟩ := e2 k (by omega)
      refine ⟨?_, ?_, ?_, ?_⟩
      · rw [gi_wi_n (by omega), gi_wi_n (by omega), gi_wi_n (by omega), gi_wi_n (by omega), x1]
      · rw [gi_wi_n (by omega), gi_wi_n (by omega), gi_wi_n (by omega), gi_wi_n (by omega), x2]
      · rw [gi_wi_n (by omega), gi_wi_n (by omega), gi_wi_n (by omega), gi_wi_n (by omega), x3]
      · rw [gi_wi_n (by omega), gi_wi_n (by omega), gi_wi_n (by omega), gi_wi_n (by omega), x4]
  · rintro lv h2 ⟨rfl, a2, e2⟩
    rw [s68_2]
    simp (disch := omega) only [s68_3, s68_5, s68_8, s68_8n, s68_9, s68_12, s68_13, s68_13n, s68_14, s68_17, s68_18, s68_19, s68_20, s68_21, s68_22, s68_22n, s68_23, s68_26, s68_27, s68_27n, s68_28, s68_31, s68_32, s68_33, s68_34, s68_35, s68_36, s68_36n, s68_37, s68_40, s68_41, s68_41n, s68_42, s68_45, s68_46, s68_47, s68_48, s68_49, s68_50, s68_50n, s68_51, s68_54, s68_55, s68_56, s68_57, s68_60, s68_63, s68_64, true_or, or_true, or_false, false_or, or_self, Int32.reduceLT, Int32.reduceLE, Nat.add_zero, Nat.zero_add, Nat.not_lt_zero, not_false_eq_true, not_true_eq_false, and_assoc, kl_q, kl_i, kl_r, kl_n, kl_0, kl_l, cs_0, cs_i, cs_r, cs_n, cs_l, aRf_s, aRf_n, gi_wl, gi_wr, gl_wi, gl_wl, gl_wr, gr_wi, gr_wl, gr_wr, sh_wi, sh_wl, sh_wr, gl_cp, gr_cp, sh_cp, gl_rw, gr_rw, sh_rw, gi_rl, gr_rl, sh_rl, Option.toList_some, Option.toList_none, List.nil_append, List.cons_append, List.append_nil, Option.some.injEq, Prod.mk.injEq, and_true, true_and, and_self, if_true, if_false, reduceCtorEq, Nat.reduceLeDiff, Nat.reduceLT, Nat.reduceAdd, Nat.reduceEqDiff, false_and, and_false, exists_const, exists_eq_left, exists_eq_left', exists_and_left, and_assoc, nltL, nltR, nleL, nleR, neqL, neqR, naL, naR, nmL, nmR, nI_ltI, nI_leI, nI_eq, nI_add, nI_mul, nI_clamp, n0l, n0r, nm1, nm1', nm1l, nm1r, nm1g, nsL, nI_m1, Nat.add_sub_cancel, vpn, vpL, nclL, le32, leLL, leLN, leNL, leNN, inA, nb0, nb1, gi_wi_n, gi_wi_e, gi_rw_n, gi_rw_e, aWi_rw, ifl, ifl_, ifle, ifle_, ifq, ifq_, ifnq, ifnq_, ifnl, ifnl_, ifnle, ifnle_, Nat.le_refl]
    refine aLoop 5 (fun j lv h' => lv = [some (.ref 73), some (.ref 58), some (.int (nI j))] ∧ Ag (fun a _ => 73 ≤ a ∧ a ≤ 78) h h' ∧ (∀ a k, a ≤ 77 → gi h' a k = gi h2 a k) ∧ ∀ k, k < j → gi h' 78 k = gi h (68 + k) 1) ?_ ?_ 0 _ _ (Nat.zero_le _) ⟨rfl, a2, fun _ _ _ => rfl, fun k hk => absurd hk (Nat.not_lt_zero _)⟩
    · rintro j lv h' hj ⟨rfl, a3, e3, e4⟩ hk
      have ok := a3.1
      obtain ⟨g1, s1⟩ := r67i (i := j) ok hj
      have n1 : ¬ 5 ≤ j := by omega
      have v1 : gi h' (68 + j) 1 = gi h (68 + j) 1 := a3.2 _ _ (by omega)
      rw [s68_65]
      simp (disch := omega) only [s68_66, s68_67, s68_70, s68_70n, s68_71, s68_74, s68_75, s68_75n, s68_76, s68_79, s68_80, s68_81, s68_82, s68_83, s68_84, s68_87, true_or, or_true, or_false, false_or, or_self, Int32.reduceLT, Int32.reduceLE, Nat.add_zero, Nat.zero_add, Nat.not_lt_zero, not_false_eq_true, not_true_eq_false, and_assoc, kl_q, kl_i, kl_r, kl_n, kl_0, kl_l, cs_0, cs_i, cs_r, cs_n, cs_l, aRf_s, aRf_n, gi_wl, gi_wr, gl_wi, gl_wl, gl_wr, gr_wi, gr_wl, gr_wr, sh_wi, sh_wl, sh_wr, gl_cp, gr_cp, sh_cp, gl_rw, gr_rw, sh_rw, gi_rl, gr_rl, sh_rl, Option.toList_some, Option.toList_none, List.nil_append, List.cons_append, List.append_nil, Option.some.injEq, Prod.mk.injEq, and_true, true_and, and_self, if_true, if_false, reduceCtorEq, Nat.reduceLeDiff, Nat.reduceLT, Nat.reduceAdd, Nat.reduceEqDiff, false_and, and_false, exists_const, exists_eq_left, exists_eq_left', exists_and_left, and_assoc, nltL, nltR, nleL, nleR, neqL, neqR, naL, naR, nmL, nmR, nI_ltI, nI_leI, nI_eq, nI_add, nI_mul, nI_clamp, n0l, n0r, nm1, nm1', nm1l, nm1r, nm1g, nsL, nI_m1, Nat.add_sub_cancel, vpn, vpL, nclL, le32, leLL, leLN, leNL, leNN, inA, nb0, nb1, gi_wi_n, gi_wi_e, gi_rw_n, gi_rw_e, aWi_rw, ifl, ifl_, ifle, ifle_, ifq, ifq_, ifnq, ifnq_, ifnl, ifnl_, ifnle, ifnle_, z73 ok, z58 ok, z67 ok, z78 ok, r73_4 ok, r58_2 ok, n1, hj, g1, s1, v1]
      refine hk _ _ ⟨rfl, a3.wi (by omega), fun a k ha => ?_, fun k hk2 => ?_⟩
      · rw [gi_wi_n (by omega), e3 a k ha]
      · by_cases hkj : k = j
        · subst hkj
          rw [gi_wi_e]
        · rw [gi_wi_n (by omega)]
          exact e4 k (by omega)
    · rintro lv h3 ⟨rfl, a3, e3, e4⟩
      have ok := a3.1
      have v1 : gi h3 59 1 = gi h 59 1 := a3.2 _ _ (by omega)
      have v3 : gi h3 59 3 = gi h 59 3 := a3.2 _ _ (by omega)
      have v4 : gi h3 59 4 = gi h 59 4 := a3.2 _ _ (by omega)
      rw [s68_65]
      simp (disch := omega) only [s68_66, s68_67, s68_70, s68_70n, s68_71, s68_74, s68_75, s68_75n, s68_76, s68_79, s68_80, s68_81, s68_82, s68_83, s68_84, s68_87, s68_90, s68_90n, s68_91, s68_91n, s68_92, s68_95, s68_96, s68_97, s68_100, s68_100n, s68_101, s68_101n, s68_102, s68_105, s68_106, s68_107, s68_110, s68_110n, s68_111, s68_111n, s68_112, s68_115, s68_116, s68_117, s68_120, s68_120n, s68_121, s68_122, s68_125, true_or, or_true, or_false, false_or, or_self, Int32.reduceLT, Int32.reduceLE, Nat.add_zero, Nat.zero_add, Nat.not_lt_zero, not_false_eq_true, not_true_eq_false, and_assoc, kl_q, kl_i, kl_r, kl_n, kl_0, kl_l, cs_0, cs_i, cs_r, cs_n, cs_l, aRf_s, aRf_n, gi_wl, gi_wr, gl_wi, gl_wl, gl_wr, gr_wi, gr_wl, gr_wr, sh_wi, sh_wl, sh_wr, gl_cp, gr_cp, sh_cp, gl_rw, gr_rw, sh_rw, gi_rl, gr_rl, sh_rl, Option.toList_some, Option.toList_none, List.nil_append, List.cons_append, List.append_nil, Option.some.injEq, Prod.mk.injEq, and_true, true_and, and_self, if_true, if_false, reduceCtorEq, Nat.reduceLeDiff, Nat.reduceLT, Nat.reduceAdd, Nat.reduceEqDiff, false_and, and_false, exists_const, exists_eq_left, exists_eq_left', exists_and_left, and_assoc, nltL, nltR, nleL, nleR, neqL, neqR, naL, naR, nmL, nmR, nI_ltI, nI_leI, nI_eq, nI_add, nI_mul, nI_clamp, n0l, n0r, nm1, nm1', nm1l, nm1r, nm1g, nsL, nI_m1, Nat.add_sub_cancel, vpn, vpL, nclL, le32, leLL, leLN, leNL, leNN, inA, nb0, nb1, gi_wi_n, gi_wi_e, gi_rw_n, gi_rw_e, aWi_rw, ifl, ifl_, ifle, ifle_, ifq, ifq_, ifnq, ifnq_, ifnl, ifnl_, ifnle, ifnle_, z73 ok, z58 ok, z59 ok, r58_0 ok, Nat.le_refl, v1, v3, v4]
      refine hq _ ((((a3.wi (by omega)).wi (by omega)).wi (by omega)).wi (by omega)) (fun k hk => ?_) (fun k hk => ?_) ?_ ?_ ?_ ?_
      · have t : ∀ a, 74 ≤ a → a ≤ 77 → gi (aWi (aWi (aWi (aWi h3 73 5 (gi h 59 1)) 73 6 (gi h 59 3)) 73 7 (gi h 59 4)) 73 8 0) a k = gi h2 a k := fun a z1 z2 => by
          rw [gi_wi_n (by omega), gi_wi_n (by omega), gi_wi_n (by omega), gi_wi_n (by omega), e3 _ _ (by omega)]
        rw [t 74 (by omega) (by omega), t 75 (by omega) (by omega), t 76 (by omega) (by omega), t 77 (by omega) (by omega)]
        exact e2 k hk
      · rw [gi_wi_n (by omega), gi_wi_n (by omega), gi_wi_n (by omega), gi_wi_n (by omega)]
        exact e4 k hk
      · rw [gi_wi_n (by omega), gi_wi_n (by omega), gi_wi_n (by omega), gi_wi_e]
      · rw [gi_wi_n (by omega), gi_wi_n (by omega), gi_wi_e]
      · rw [gi_wi_n (by omega), gi_wi_e]
      · rw [gi_wi_e]
end B1
