-- deps: 51.who4
def cvW (v : Nat → Int32) (fl : List Nat) (x : Int32) : Nat := fl.countP (fun w => decide (v w = x))
theorem cvW_le (v : Nat → Int32) (fl : List Nat) (x : Int32) : cvW v fl x ≤ fl.length := List.countP_le_length
def mAW (v : Nat → Int32) (fl : List Nat) : Nat → Nat
  | 0 => 0
  | k + 1 => max (mAW v fl k) (cvW v fl (v (fl[k]?.getD 0)))
def mTW (v : Nat → Int32) (fl : List Nat) : Nat → Nat
  | 0 => 0
  | e + 1 => max (mTW v fl e) (cvW v fl (dn e))
theorem mAW_le (v : Nat → Int32) (fl : List Nat) : ∀ k, mAW v fl k ≤ fl.length
  | 0 => Nat.zero_le _
  | k + 1 => by
    have h1 := mAW_le v fl k
    have h2 := cvW_le v fl (v (fl[k]?.getD 0))
    rw [mAW]
    omega
theorem mTW_le (v : Nat → Int32) (fl : List Nat) : ∀ k, mTW v fl k ≤ fl.length
  | 0 => Nat.zero_le _
  | k + 1 => by
    have h1 := mTW_le v fl k
    have h2 := cvW_le v fl (dn k)
    rw [mTW]
    omega
theorem mAW_ge {v : Nat → Int32} {fl : List Nat} {j : Nat} : ∀ k, j < k → cvW v fl (v (fl[j]?.getD 0)) ≤ mAW v fl k
  | 0, h => by omega
  | k + 1, h => by
    rw [mAW]
    by_cases e : j = k
    · subst e
      omega
    · have := mAW_ge (v := v) (fl := fl) (j := j) k (by omega)
      omega
theorem mTW_ge {v : Nat → Int32} {fl : List Nat} {j : Nat} : ∀ k, j < k → cvW v fl (dn j) ≤ mTW v fl k
  | 0, h => by omega
  | k + 1, h => by
    rw [mTW]
    by_cases e : j = k
    · subst e
      omega
    · have := mTW_ge (v := v) (fl := fl) (j := j) k (by omega)
      omega
theorem mAT_1 {v : Nat → Int32} {fl : List Nat} {M : Nat} (hv : ∀ w ∈ fl, ∃ e, e ≤ M ∧ v w = dn e) : ∀ k, k ≤ fl.length → mAW v fl k ≤ mTW v fl (M + 1)
  | 0, _ => Nat.zero_le _
  | k + 1, hk => by
    have h1 := mAT_1 hv k (by omega)
    obtain ⟨e, he, ee⟩ := hv (fl[k]'(by omega)) (List.getElem_mem _)
    have h2 := mTW_ge (v := v) (fl := fl) (j := e) (M + 1) (by omega)
    rw [mAW, List.getElem?_eq_getElem (by omega), Option.getD_some, ee]
    omega
theorem mAT_2 {v : Nat → Int32} {fl : List Nat} : ∀ e, mTW v fl e ≤ mAW v fl fl.length
  | 0 => Nat.zero_le _
  | e + 1 => by
    have h1 := mAT_2 (v := v) (fl := fl) e
    rw [mTW]
    by_cases h0 : cvW v fl (dn e) = 0
    · omega
    · have h2 : 0 < fl.countP (fun w => decide (v w = dn e)) := by
        unfold cvW at h0
        omega
      rw [List.countP_pos_iff] at h2
      obtain ⟨w, hw, hd⟩ := h2
      have hd2 := of_decide_eq_true hd
      obtain ⟨k, hk, ek⟩ := List.getElem_of_mem hw
      have h3 := mAW_ge (v := v) (fl := fl) (j := k) fl.length hk
      rw [List.getElem?_eq_getElem hk, Option.getD_some, ek, hd2] at h3
      omega
theorem mAT {v : Nat → Int32} {fl : List Nat} {M : Nat} (hv : ∀ w ∈ fl, ∃ e, e ≤ M ∧ v w = dn e) : mAW v fl fl.length = mTW v fl (M + 1) := Nat.le_antisymm (mAT_1 hv _ (Nat.le_refl _)) (mAT_2 _)
theorem cv_fl {v : Nat → Int32} {so : Nat → Bool} {w : Nat} {x : Int32} : cvW v (flW so (w + 1)) x = cvW v (flW so w) x + (if so w = true ∧ v w = x then 1 else 0) := by
  unfold cvW
  rw [flW]
  by_cases h1 : so w = true
  · rw [if_pos h1, List.countP_append, List.countP_singleton]
    by_cases h2 : v w = x
    · simp [h1, h2]
    · simp [h1, h2]
  · rw [if_neg h1, if_neg (fun q => h1 q.1)]
    rfl
theorem imax_n {a b : Nat} (ha : a < 2 ^ 31) (hb : b < 2 ^ 31) : imax (nI a) (nI b) = nI (max a b) := by
  unfold imax
  by_cases h : a < b
  · rw [if_pos ((nI_ltI ha hb).mpr h), Nat.max_eq_right (by omega)]
  · rw [if_neg (fun q => h ((nI_ltI ha hb).mp q)), Nat.max_eq_left (by omega)]
section Q25
variable {d : Nat} {g h : aM} {Q : Option Value → aM → Prop} {M F L W N D P n gg : Nat}
theorem c_alike {T : Nat → Nat → Int32} {fl : List Nat} {i : Nat} (ok : OK h) (f7 : fl.length ≤ 7) (hi : i < 20) (fs : FitS h T fl) (hq : Q (some (.int (nI (mAW (fun w => T w i) fl fl.length)))) h) : AW (d + 1) 66 0 [some (.ref 358), some (.int (nI i)), none, none, none, none] [] h Q := by
  simp (disch := omega) only [s66_0, s66_1, s66_2, s66_3, s66_5, s66_6, s66_9, s66_12, s66_13, s66_15, s66_16, s66_20, s66_21, s66_24, s66_27, s66_28, s66_31, s66_33, s66_34, s66_35, s66_36, s66_37, s66_40, s66_41, s66_42, s66_43, s66_44, s66_47, s66_50, s66_53, s66_56, s66_57, s66_59, s66_62, s66_63, s66_66, s66_69, s66_70, true_or, or_true, or_false, false_or, or_self, Int32.reduceLT, Int32.reduceLE, Nat.add_zero, Nat.zero_add, Nat.not_lt_zero, not_false_eq_true, not_true_eq_false, and_assoc, kl_q, kl_i, kl_r, kl_n, kl_0, kl_l, cs_0, cs_i, cs_r, cs_n, cs_l, aRf_s, aRf_n, gi_wl, gi_wr, gl_wi, gl_wl, gl_wr, gr_wi, gr_wl, gr_wr, sh_wi, sh_wl, sh_wr, gl_cp, gr_cp, sh_cp, gl_rw, gr_rw, sh_rw, gi_rl, gr_rl, sh_rl, Option.toList_some, Option.toList_none, List.nil_append, List.cons_append, List.append_nil, Option.some.injEq, Prod.mk.injEq, and_true, true_and, and_self, if_true, if_false, reduceCtorEq, Nat.reduceLeDiff, Nat.reduceLT, Nat.reduceAdd, Nat.reduceEqDiff, false_and, and_false, exists_const, exists_eq_left, exists_eq_left', exists_and_left, and_assoc, nltL, nltR, nleL, nleR, neqL, neqR, naL, naR, nmL, nmR, nI_ltI, nI_leI, nI_eq, nI_add, nI_mul, nI_clamp, n0l, n0r, nm1, nm1', nm1l, nm1r, nm1g, nsL, nI_m1, Nat.add_sub_cancel, vpn, vpL, nclL, le32, leLL, leLN, leNL, leNN, inA, nb0, nb1, gi_wi_n, gi_wi_e, gi_rw_n, gi_rw_e, aWi_rw, ifl, ifl_, ifle, ifle_, ifq, ifq_, ifnq, ifnq_, ifnl, ifnl_, ifnle, ifnle_]
  refine aLoop fl.length (fun k lv h' => ∃ z1 z2, lv = [some (.ref 358), some (.int (nI i)), some (.int (nI (mAW (fun w => T w i) fl k))), some (.int (nI k)), z1, z2] ∧ h' = h) ?_ ?_ 0 _ _ (Nat.zero_le _) ⟨_, _, rfl, rfl⟩
  · rintro k lv h' hk ⟨z1, z2, rfl, rfl⟩ hk2
    have e1 : ¬ fl.length ≤ k := by omega
    have k7 : k < 7 := by omega
    have ek := (fs.2 k _ (List.getElem?_eq_getElem hk)).2 i hi
    rw [s66_4]
    simp (disch := omega) only [s66_0, s66_1, s66_2, s66_3, s66_5, s66_6, s66_9, s66_12, s66_13, s66_15, s66_16, s66_20, s66_21, s66_24, s66_27, s66_28, s66_31, s66_33, s66_34, s66_35, s66_36, s66_37, s66_40, s66_41, s66_42, s66_43, s66_44, s66_47, s66_50, s66_53, s66_56, s66_57, s66_59, s66_62, s66_63, s66_66, s66_69, s66_70, true_or, or_true, or_false, false_or, or_self, Int32.reduceLT, Int32.reduceLE, Nat.add_zero, Nat.zero_add, Nat.not_lt_zero, not_false_eq_true, not_true_eq_false, and_assoc, kl_q, kl_i, kl_r, kl_n, kl_0, kl_l, cs_0, cs_i, cs_r, cs_n, cs_l, aRf_s, aRf_n, gi_wl, gi_wr, gl_wi, gl_wl, gl_wr, gr_wi, gr_wl, gr_wr, sh_wi, sh_wl, sh_wr, gl_cp, gr_cp, sh_cp, gl_rw, gr_rw, sh_rw, gi_rl, gr_rl, sh_rl, Option.toList_some, Option.toList_none, List.nil_append, List.cons_append, List.append_nil, Option.some.injEq, Prod.mk.injEq, and_true, true_and, and_self, if_true, if_false, reduceCtorEq, Nat.reduceLeDiff, Nat.reduceLT, Nat.reduceAdd, Nat.reduceEqDiff, false_and, and_false, exists_const, exists_eq_left, exists_eq_left', exists_and_left, and_assoc, nltL, nltR, nleL, nleR, neqL, neqR, naL, naR, nmL, nmR, nI_ltI, nI_leI, nI_eq, nI_add, nI_mul, nI_clamp, n0l, n0r, nm1, nm1', nm1l, nm1r, nm1g, nsL, nI_m1, Nat.add_sub_cancel, vpn, vpL, nclL, le32, leLL, leLN, leNL, leNN, inA, nb0, nb1, gi_wi_n, gi_wi_e, gi_rw_n, gi_rw_e, aWi_rw, ifl, ifl_, ifle, ifle_, ifq, ifq_, ifnq, ifnq_, ifnl, ifnl_, ifnle, ifnle_, z358 ok, fs.1, e1]
    refine aLoop fl.length (fun j lv h2 => lv = [some (.ref 358), some (.int (nI i)), some (.int (nI (mAW (fun w => T w i) fl k))), some (.int (nI k)), some (.int (nI (cvW (fun w => T w i) (fl.take j) (T fl[k] i)))), some (.int (nI j))] ∧ h2 = h') ?_ ?_ 0 _ _ (Nat.zero_le _) ⟨rfl, rfl⟩
    · rintro j lv h2 hj ⟨rfl, rfl⟩ hk3
      have e2 : ¬ fl.length ≤ j := by omega
      have j7 : j < 7 := by omega
      have ej := (fs.2 j _ (List.getElem?_eq_getElem hj)).2 i hi
      have et : fl.take (j + 1) = fl.take j ++ [fl[j]] := by
        rw [List.take_add_one, List.getElem?_eq_getElem hj]
        rfl
      have hk' := hk3 _ h2 ⟨rfl, rfl⟩
      unfold cvW at hk'
      rw [et, List.countP_append, List.countP_singleton] at hk'
      rw [s66_18]
      simp (disch := omega) only [s66_0, s66_1, s66_2, s66_3, s66_5, s66_6, s66_9, s66_12, s66_13, s66_15, s66_16, s66_20, s66_21, s66_24, s66_27, s66_28, s66_31, s66_33, s66_34, s66_35, s66_36, s66_37, s66_40, s66_41, s66_42, s66_43, s66_44, s66_47, s66_50, s66_53, s66_56, s66_57, s66_59, s66_62, s66_63, s66_66, s66_69, s66_70, true_or, or_true, or_false, false_or, or_self, Int32.reduceLT, Int32.reduceLE, Nat.add_zero, Nat.zero_add, Nat.not_lt_zero, not_false_eq_true, not_true_eq_false, and_assoc, kl_q, kl_i, kl_r, kl_n, kl_0, kl_l, cs_0, cs_i, cs_r, cs_n, cs_l, aRf_s, aRf_n, gi_wl, gi_wr, gl_wi, gl_wl, gl_wr, gr_wi, gr_wl, gr_wr, sh_wi, sh_wl, sh_wr, gl_cp, gr_cp, sh_cp, gl_rw, gr_rw, sh_rw, gi_rl, gr_rl, sh_rl, Option.toList_some, Option.toList_none, List.nil_append, List.cons_append, List.append_nil, Option.some.injEq, Prod.mk.injEq, and_true, true_and, and_self, if_true, if_false, reduceCtorEq, Nat.reduceLeDiff, Nat.reduceLT, Nat.reduceAdd, Nat.reduceEqDiff, false_and, and_false, exists_const, exists_eq_left, exists_eq_left', exists_and_left, and_assoc, nltL, nltR, nleL, nleR, neqL, neqR, naL, naR, nmL, nmR, nI_ltI, nI_leI, nI_eq, nI_add, nI_mul, nI_clamp, n0l, n0r, nm1, nm1', nm1l, nm1r, nm1g, nsL, nI_m1, Nat.add_sub_cancel, vpn, vpL, nclL, le32, leLL, leLN, leNL, leNN, inA, nb0, nb1, gi_wi_n, gi_wi_e, gi_rw_n, gi_rw_e, aWi_rw, ifl, ifl_, ifle, ifle_, ifq, ifq_, ifnq, ifnq_, ifnl, ifnl_, ifnle, ifnle_, z358 ok, z363 ok, r358_5 ok, fs.1, e2, j7, k7, hi, g363 ok j7, g363 ok k7, q364 ok j7, q364 ok k7, ej, ek]
      by_cases h3 : T fl[j] i = T fl[k] i
      · rw [if_neg (fun q => q h3)]
        rw [decide_eq_true h3] at hk'
        exact hk'
      · rw [if_pos h3]
        rw [decide_eq_false h3] at hk'
        exact hk'
    · rintro lv h2 ⟨rfl, rfl⟩
      have l1 := mAW_le (fun w => T w i) fl k
      have l2 := cvW_le (fun w => T w i) fl (T fl[k] i)
      have hk' := hk2 _ h2 ⟨some (.int (nI (cvW (fun w => T w i) fl (T fl[k] i)))), some (.int (nI fl.length)), rfl, rfl⟩
      rw [mAW, List.getElem?_eq_getElem hk, Option.getD_some] at hk'
      rw [s66_18]
      simp (disch := omega) only [s66_0, s66_1, s66_2, s66_3, s66_5, s66_6, s66_9, s66_12, s66_13, s66_15, s66_16, s66_20, s66_21, s66_24, s66_27, s66_28, s66_31, s66_33, s66_34, s66_35, s66_36, s66_37, s66_40, s66_41, s66_42, s66_43, s66_44, s66_47, s66_50, s66_53, s66_56, s66_57, s66_59, s66_62, s66_63, s66_66, s66_69, s66_70, true_or, or_true, or_false, false_or, or_self, Int32.reduceLT, Int32.reduceLE, Nat.add_zero, Nat.zero_add, Nat.not_lt_zero, not_false_eq_true, not_true_eq_false, and_assoc, kl_q, kl_i, kl_r, kl_n, kl_0, kl_l, cs_0, cs_i, cs_r, cs_n, cs_l, aRf_s, aRf_n, gi_wl, gi_wr, gl_wi, gl_wl, gl_wr, gr_wi, gr_wl, gr_wr, sh_wi, sh_wl, sh_wr, gl_cp, gr_cp, sh_cp, gl_rw, gr_rw, sh_rw, gi_rl, gr_rl, sh_rl, Option.toList_some, Option.toList_none, List.nil_append, List.cons_append, List.append_nil, Option.some.injEq, Prod.mk.injEq, and_true, true_and, and_self, if_true, if_false, reduceCtorEq, Nat.reduceLeDiff, Nat.reduceLT, Nat.reduceAdd, Nat.reduceEqDiff, false_and, and_false, exists_const, exists_eq_left, exists_eq_left', exists_and_left, and_assoc, nltL, nltR, nleL, nleR, neqL, neqR, naL, naR, nmL, nmR, nI_ltI, nI_leI, nI_eq, nI_add, nI_mul, nI_clamp, n0l, n0r, nm1, nm1', nm1l, nm1r, nm1g, nsL, nI_m1, Nat.add_sub_cancel, vpn, vpL, nclL, le32, leLL, leLN, leNL, leNN, inA, nb0, nb1, gi_wi_n, gi_wi_e, gi_rw_n, gi_rw_e, aWi_rw, ifl, ifl_, ifle, ifle_, ifq, ifq_, ifnq, ifnq_, ifnl, ifnl_, ifnle, ifnle_, z358 ok, fs.1, Nat.le_refl, List.take_length, sp_max, imax_n]
      exact hk'
  · rintro lv h' ⟨z1, z2, rfl, rfl⟩
    rw [s66_4]
    simp (disch := omega) only [s66_0, s66_1, s66_2, s66_3, s66_5, s66_6, s66_9, s66_12, s66_13, s66_15, s66_16, s66_20, s66_21, s66_24, s66_27, s66_28, s66_31, s66_33, s66_34, s66_35, s66_36, s66_37, s66_40, s66_41, s66_42, s66_43, s66_44, s66_47, s66_50, s66_53, s66_56, s66_57, s66_59, s66_62, s66_63, s66_66, s66_69, s66_70, true_or, or_true, or_false, false_or, or_self, Int32.reduceLT, Int32.reduceLE, Nat.add_zero, Nat.zero_add, Nat.not_lt_zero, not_false_eq_true, not_true_eq_false, and_assoc, kl_q, kl_i, kl_r, kl_n, kl_0, kl_l, cs_0, cs_i, cs_r, cs_n, cs_l, aRf_s, aRf_n, gi_wl, gi_wr, gl_wi, gl_wl, gl_wr, gr_wi, gr_wl, gr_wr, sh_wi, sh_wl, sh_wr, gl_cp, gr_cp, sh_cp, gl_rw, gr_rw, sh_rw, gi_rl, gr_rl, sh_rl, Option.toList_some, Option.toList_none, List.nil_append, List.cons_append, List.append_nil, Option.some.injEq, Prod.mk.injEq, and_true, true_and, and_self, if_true, if_false, reduceCtorEq, Nat.reduceLeDiff, Nat.reduceLT, Nat.reduceAdd, Nat.reduceEqDiff, false_and, and_false, exists_const, exists_eq_left, exists_eq_left', exists_and_left, and_assoc, nltL, nltR, nleL, nleR, neqL, neqR, naL, naR, nmL, nmR, nI_ltI, nI_leI, nI_eq, nI_add, nI_mul, nI_clamp, n0l, n0r, nm1, nm1', nm1l, nm1r, nm1g, nsL, nI_m1, Nat.add_sub_cancel, vpn, vpL, nclL, le32, leLL, leLN, leNL, leNN, inA, nb0, nb1, gi_wi_n, gi_wi_e, gi_rw_n, gi_rw_e, aWi_rw, ifl, ifl_, ifle, ifle_, ifq, ifq_, ifnq, ifnq_, ifnl, ifnl_, ifnle, ifnle_, z358 ok, fs.1, Nat.le_refl]
    exact hq
theorem m_tell {T : Nat → Nat → Int32} {i : Nat} (it : ITold g M F L W) (is : ISee g n) (s : Same g h) (hi : i < 20) (hr : ∀ w, w < 10 → whoB M w = true → ∀ i, i < 20 → gi h 426 (20 * w + i) = T w i) (hq : Q (some (.int (nI (mTW (fun w => T w i) (flW (SO g M n T) 10) (M + 1))))) h) : AW (d + 4) 256 0 [some (.ref 399), some (.int (nI i)), none, none, none, none] [] h Q := by
  have hM : M ≤ 6 := it.1
  have hM' : M ≤ 10 := by omega
  have hF : F ≤ 5 := it.2.1
  have hF' : F ≤ 10 := by omega
  have hL : L ≤ 30 := it.2.2.1
  have hW : W ≤ 20 := it.2.2.2.1
  obtain ⟨r1, r2, r3, r4, r5, r6, r7, r8⟩ := rd58 it s
  have ok := s.1
  have l10 := flW_len (SO g M n T) 10
  simp (disch := omega) only [s256_0, s256_1, s256_2, s256_3, s256_5, s256_6, s256_9, s256_12, s256_13, s256_15, s256_16, s256_20, s256_22, s256_25, s256_27, s256_28, s256_30, s256_33, s256_36, s256_37, s256_40, s256_42, s256_44, s256_45, s256_46, s256_47, s256_48, s256_49, s256_52, s256_53, s256_56, s256_57, s256_58, s256_60, s256_63, s256_66, s256_67, s256_69, s256_72, s256_73, s256_76, s256_79, s256_80, true_or, or_true, or_false, false_or, or_self, Int32.reduceLT, Int32.reduceLE, Nat.add_zero, Nat.zero_add, Nat.not_lt_zero, not_false_eq_true, not_true_eq_false, and_assoc, kl_q, kl_i, kl_r, kl_n, kl_0, kl_l, cs_0, cs_i, cs_r, cs_n, cs_l, aRf_s, aRf_n, gi_wl, gi_wr, gl_wi, gl_wl, gl_wr, gr_wi, gr_wl, gr_wr, sh_wi, sh_wl, sh_wr, gl_cp, gr_cp, sh_cp, gl_rw, gr_rw, sh_rw, gi_rl, gr_rl, sh_rl, Option.toList_some, Option.toList_none, List.nil_append, List.cons_append, List.append_nil, Option.some.injEq, Prod.mk.injEq, and_true, true_and, and_self, if_true, if_false, reduceCtorEq, Nat.reduceLeDiff, Nat.reduceLT, Nat.reduceAdd, Nat.reduceEqDiff, false_and, and_false, exists_const, exists_eq_left, exists_eq_left', exists_and_left, and_assoc, nltL, nltR, nleL, nleR, neqL, neqR, naL, naR, nmL, nmR, nI_ltI, nI_leI, nI_eq, nI_add, nI_mul, nI_clamp, n0l, n0r, nm1, nm1', nm1l, nm1r, nm1g, nsL, nI_m1, Nat.add_sub_cancel, vpn, vpL, nclL, le32, leLL, leLN, leNL, leNN, inA, nb0, nb1, gi_wi_n, gi_wi_e, gi_rw_n, gi_rw_e, aWi_rw, ifl, ifl_, ifle, ifle_, ifq, ifq_, ifnq, ifnq_, ifnl, ifnl_, ifnle, ifnle_]
  refine aLoop (M + 1) (fun e lv h' => ∃ z1 z2, lv = [some (.ref 399), some (.int (nI i)), some (.int (nI (mTW (fun w => T w i) (flW (SO g M n T) 10) e))), some (.int (dn e)), z1, z2] ∧ h' = h) ?_ ?_ 0 _ _ (Nat.zero_le _) ⟨_, _, rfl, rfl⟩
  · rintro e lv h' he ⟨z1, z2, rfl, rfl⟩ hk2
    have l1 := mTW_le (fun w => T w i) (flW (SO g M n T) 10) e
    have e1 : ¬ nI M ≤ dn e := by
      cases e with
      | zero =>
        have e2 : (dn 0).toInt = -1 := rfl
        rw [lei, e2, nI_toInt (by omega)]
        omega
      | succ e =>
        rw [dn_s, nI_leI (by omega) (by omega)]
        omega
    have e3 : dn e + 1 = dn (e + 1) := by
      cases e with
      | zero => rfl
      | succ e =>
        rw [dn_s, dn_s]
        exact nI_add e 1
    rw [s256_4]
    simp (disch := omega) only [s256_0, s256_1, s256_2, s256_3, s256_5, s256_6, s256_9, s256_12, s256_13, s256_15, s256_16, s256_20, s256_22, s256_25, s256_27, s256_28, s256_30, s256_33, s256_36, s256_37, s256_40, s256_42, s256_44, s256_45, s256_46, s256_47, s256_48, s256_49, s256_52, s256_53, s256_56, s256_57, s256_58, s256_60, s256_63, s256_66, s256_67, s256_69, s256_72, s256_73, s256_76, s256_79, s256_80, true_or, or_true, or_false, false_or, or_self, Int32.reduceLT, Int32.reduceLE, Nat.add_zero, Nat.zero_add, Nat.not_lt_zero, not_false_eq_true, not_true_eq_false, and_assoc, kl_q, kl_i, kl_r, kl_n, kl_0, kl_l, cs_0, cs_i, cs_r, cs_n, cs_l, aRf_s, aRf_n, gi_wl, gi_wr, gl_wi, gl_wl, gl_wr, gr_wi, gr_wl, gr_wr, sh_wi, sh_wl, sh_wr, gl_cp, gr_cp, sh_cp, gl_rw, gr_rw, sh_rw, gi_rl, gr_rl, sh_rl, Option.toList_some, Option.toList_none, List.nil_append, List.cons_append, List.append_nil, Option.some.injEq, Prod.mk.injEq, and_true, true_and, and_self, if_true, if_false, reduceCtorEq, Nat.reduceLeDiff, Nat.reduceLT, Nat.reduceAdd, Nat.reduceEqDiff, false_and, and_false, exists_const, exists_eq_left, exists_eq_left', exists_and_left, and_assoc, nltL, nltR, nleL, nleR, neqL, neqR, naL, naR, nmL, nmR, nI_ltI, nI_leI, nI_eq, nI_add, nI_mul, nI_clamp, n0l, n0r, nm1, nm1', nm1l, nm1r, nm1g, nsL, nI_m1, Nat.add_sub_cancel, vpn, vpL, nclL, le32, leLL, leLN, leNL, leNN, inA, nb0, nb1, gi_wi_n, gi_wi_e, gi_rw_n, gi_rw_e, aWi_rw, ifl, ifl_, ifle, ifle_, ifq, ifq_, ifnq, ifnq_, ifnl, ifnl_, ifnle, ifnle_, z399 ok, r2, e1]
    refine aLoop 10 (fun w lv h2 => lv = [some (.ref 399), some (.int (nI i)), some (.int (nI (mTW (fun w => T w i) (flW (SO g M n T) 10) e))), some (.int (dn e)), some (.int (nI (cvW (fun w => T w i) (flW (SO g M n T) w) (dn e)))), some (.int (nI w))] ∧ h2 = h') ?_ ?_ 0 _ _ (Nat.zero_le _) ⟨rfl, rfl⟩
    · rintro w lv h2 hw ⟨rfl, rfl⟩ hk3
      have e2 : ¬ 9 < w := by omega
      have a1 : 20 * w + i < 200 := by omega
      have lw := flW_len (SO g M n T) w
      have lc := cvW_le (fun w => T w i) (flW (SO g M n T) w) (dn e)
      have hk' := hk3 _ h2 ⟨rfl, rfl⟩
      rw [cv_fl] at hk'
      rw [s256_18]
      simp (disch := omega) only [s256_0, s256_1, s256_2, s256_3, s256_5, s256_6, s256_9, s256_12, s256_13, s256_15, s256_16, s256_20, s256_22, s256_25, s256_27, s256_28, s256_30, s256_33, s256_36, s256_37, s256_40, s256_42, s256_44, s256_45, s256_46, s256_47, s256_48, s256_49, s256_52, s256_53, s256_56, s256_57, s256_58, s256_60, s256_63, s256_66, s256_67, s256_69, s256_72, s256_73, s256_76, s256_79, s256_80, true_or, or_true, or_false, false_or, or_self, Int32.reduceLT, Int32.reduceLE, Nat.add_zero, Nat.zero_add, Nat.not_lt_zero, not_false_eq_true, not_true_eq_false, and_assoc, kl_q, kl_i, kl_r, kl_n, kl_0, kl_l, cs_0, cs_i, cs_r, cs_n, cs_l, aRf_s, aRf_n, gi_wl, gi_wr, gl_wi, gl_wl, gl_wr, gr_wi, gr_wl, gr_wr, sh_wi, sh_wl, sh_wr, gl_cp, gr_cp, sh_cp, gl_rw, gr_rw, sh_rw, gi_rl, gr_rl, sh_rl, Option.toList_some, Option.toList_none, List.nil_append, List.cons_append, List.append_nil, Option.some.injEq, Prod.mk.injEq, and_true, true_and, and_self, if_true, if_false, reduceCtorEq, Nat.reduceLeDiff, Nat.reduceLT, Nat.reduceAdd, Nat.reduceEqDiff, false_and, and_false, exists_const, exists_eq_left, exists_eq_left', exists_and_left, and_assoc, nltL, nltR, nleL, nleR, neqL, neqR, naL, naR, nmL, nmR, nI_ltI, nI_leI, nI_eq, nI_add, nI_mul, nI_clamp, n0l, n0r, nm1, nm1', nm1l, nm1r, nm1g, nsL, nI_m1, Nat.add_sub_cancel, vpn, vpL, nclL, le32, leLL, leLN, leNL, leNN, inA, nb0, nb1, gi_wi_n, gi_wi_e, gi_rw_n, gi_rw_e, aWi_rw, ifl, ifl_, ifle, ifle_, ifq, ifq_, ifnq, ifnq_, ifnl, ifnl_, ifnle, ifnle_, z399 ok, e2]
      refine m_isSo hM it is s hw (fun hB i hi => hr w hw hB i hi) ?_
      cases hs : SO g M n T w
      · rw [hs, if_neg (by simp), Nat.add_zero] at hk'
        simp (disch := omega) only [s256_0, s256_1, s256_2, s256_3, s256_5, s256_6, s256_9, s256_12, s256_13, s256_15, s256_16, s256_20, s256_22, s256_25, s256_27, s256_28, s256_30, s256_33, s256_36, s256_37, s256_40, s256_42, s256_44, s256_45, s256_46, s256_47, s256_48, s256_49, s256_52, s256_53, s256_56, s256_57, s256_58, s256_60, s256_63, s256_66, s256_67, s256_69, s256_72, s256_73, s256_76, s256_79, s256_80, true_or, or_true, or_false, false_or, or_self, Int32.reduceLT, Int32.reduceLE, Nat.add_zero, Nat.zero_add, Nat.not_lt_zero, not_false_eq_true, not_true_eq_false, and_assoc, kl_q, kl_i, kl_r, kl_n, kl_0, kl_l, cs_0, cs_i, cs_r, cs_n, cs_l, aRf_s, aRf_n, gi_wl, gi_wr, gl_wi, gl_wl, gl_wr, gr_wi, gr_wl, gr_wr, sh_wi, sh_wl, sh_wr, gl_cp, gr_cp, sh_cp, gl_rw, gr_rw, sh_rw, gi_rl, gr_rl, sh_rl, Option.toList_some, Option.toList_none, List.nil_append, List.cons_append, List.append_nil, Option.some.injEq, Prod.mk.injEq, and_true, true_and, and_self, if_true, if_false, reduceCtorEq, Nat.reduceLeDiff, Nat.reduceLT, Nat.reduceAdd, Nat.reduceEqDiff, false_and, and_false, exists_const, exists_eq_left, exists_eq_left', exists_and_left, and_assoc, nltL, nltR, nleL, nleR, neqL, neqR, naL, naR, nmL, nmR, nI_ltI, nI_leI, nI_eq, nI_add, nI_mul, nI_clamp, n0l, n0r, nm1, nm1', nm1l, nm1r, nm1g, nsL, nI_m1, Nat.add_sub_cancel, vpn, vpL, nclL, le32, leLL, leLN, leNL, leNN, inA, nb0, nb1, gi_wi_n, gi_wi_e, gi_rw_n, gi_rw_e, aWi_rw, ifl, ifl_, ifle, ifle_, ifq, ifq_, ifnq, ifnq_, ifnl, ifnl_, ifnle, ifnle_, bI_0]
        exact hk'
      · have hB : whoB M w = true := by
          unfold SO at hs
          rw [Bool.and_eq_true] at hs
          exact hs.1
        have ev := hr w hw hB i hi
        simp (disch := omega) only [s256_0, s256_1, s256_2, s256_3, s256_5, s256_6, s256_9, s256_12, s256_13, s256_15, s256_16, s256_20, s256_22, s256_25, s256_27, s256_28, s256_30, s256_33, s256_36, s256_37, s256_40, s256_42, s256_44, s256_45, s256_46, s256_47, s256_48, s256_49, s256_52, s256_53, s256_56, s256_57, s256_58, s256_60, s256_63, s256_66, s256_67, s256_69, s256_72, s256_73, s256_76, s256_79, s256_80, true_or, or_true, or_false, false_or, or_self, Int32.reduceLT, Int32.reduceLE, Nat.add_zero, Nat.zero_add, Nat.not_lt_zero, not_false_eq_true, not_true_eq_false, and_assoc, kl_q, kl_i, kl_r, kl_n, kl_0, kl_l, cs_0, cs_i, cs_r, cs_n, cs_l, aRf_s, aRf_n, gi_wl, gi_wr, gl_wi, gl_wl, gl_wr, gr_wi, gr_wl, gr_wr, sh_wi, sh_wl, sh_wr, gl_cp, gr_cp, sh_cp, gl_rw, gr_rw, sh_rw, gi_rl, gr_rl, sh_rl, Option.toList_some, Option.toList_none, List.nil_append, List.cons_append, List.append_nil, Option.some.injEq, Prod.mk.injEq, and_true, true_and, and_self, if_true, if_false, reduceCtorEq, Nat.reduceLeDiff, Nat.reduceLT, Nat.reduceAdd, Nat.reduceEqDiff, false_and, and_false, exists_const, exists_eq_left, exists_eq_left', exists_and_left, and_assoc, nltL, nltR, nleL, nleR, neqL, neqR, naL, naR, nmL, nmR, nI_ltI, nI_leI, nI_eq, nI_add, nI_mul, nI_clamp, n0l, n0r, nm1, nm1', nm1l, nm1r, nm1g, nsL, nI_m1, Nat.add_sub_cancel, vpn, vpL, nclL, le32, leLL, leLN, leNL, leNN, inA, nb0, nb1, gi_wi_n, gi_wi_e, gi_rw_n, gi_rw_e, aWi_rw, ifl, ifl_, ifle, ifle_, ifq, ifq_, ifnq, ifnq_, ifnl, ifnl_, ifnle, ifnle_, bI_0, Bool.true_eq_false, z399 ok, z426 ok, r399_46 ok, a1, ev]
        by_cases h3 : T w i = dn e
        · rw [if_pos ⟨hs, h3⟩] at hk'
          rw [if_neg (fun q => q h3)]
          exact hk'
        · rw [if_neg (fun q => h3 q.2), Nat.add_zero] at hk'
          rw [if_pos h3]
          exact hk'
    · rintro lv h2 ⟨rfl, rfl⟩
      have l2 := cvW_le (fun w => T w i) (flW (SO g M n T) 10) (dn e)
      have hk' := hk2 _ h2 ⟨some (.int (nI (cvW (fun w => T w i) (flW (SO g M n T) 10) (dn e)))), some (.int (nI 10)), rfl, rfl⟩
      rw [mTW] at hk'
      rw [s256_18]
      simp (disch := omega) only [s256_0, s256_1, s256_2, s256_3, s256_5, s256_6, s256_9, s256_12, s256_13, s256_15, s256_16, s256_20, s256_22, s256_25, s256_27, s256_28, s256_30, s256_33, s256_36, s256_37, s256_40, s256_42, s256_44, s256_45, s256_46, s256_47, s256_48, s256_49, s256_52, s256_53, s256_56, s256_57, s256_58, s256_60, s256_63, s256_66, s256_67, s256_69, s256_72, s256_73, s256_76, s256_79, s256_80, true_or, or_true, or_false, false_or, or_self, Int32.reduceLT, Int32.reduceLE, Nat.add_zero, Nat.zero_add, Nat.not_lt_zero, not_false_eq_true, not_true_eq_false, and_assoc, kl_q, kl_i, kl_r, kl_n, kl_0, kl_l, cs_0, cs_i, cs_r, cs_n, cs_l, aRf_s, aRf_n, gi_wl, gi_wr, gl_wi, gl_wl, gl_wr, gr_wi, gr_wl, gr_wr, sh_wi, sh_wl, sh_wr, gl_cp, gr_cp, sh_cp, gl_rw, gr_rw, sh_rw, gi_rl, gr_rl, sh_rl, Option.toList_some, Option.toList_none, List.nil_append, List.cons_append, List.append_nil, Option.some.injEq, Prod.mk.injEq, and_true, true_and, and_self, if_true, if_false, reduceCtorEq, Nat.reduceLeDiff, Nat.reduceLT, Nat.reduceAdd, Nat.reduceEqDiff, false_and, and_false, exists_const, exists_eq_left, exists_eq_left', exists_and_left, and_assoc, nltL, nltR, nleL, nleR, neqL, neqR, naL, naR, nmL, nmR, nI_ltI, nI_leI, nI_eq, nI_add, nI_mul, nI_clamp, n0l, n0r, nm1, nm1', nm1l, nm1r, nm1g, nsL, nI_m1, Nat.add_sub_cancel, vpn, vpL, nclL, le32, leLL, leLN, leNL, leNN, inA, nb0, nb1, gi_wi_n, gi_wi_e, gi_rw_n, gi_rw_e, aWi_rw, ifl, ifl_, ifle, ifle_, ifq, ifq_, ifnq, ifnq_, ifnl, ifnl_, ifnle, ifnle_, show (9 : Nat) < 10 by omega, sp_max, imax_n, e3]
      exact hk'
  · rintro lv h' ⟨z1, z2, rfl, rfl⟩
    rw [s256_4]
    simp (disch := omega) only [s256_0, s256_1, s256_2, s256_3, s256_5, s256_6, s256_9, s256_12, s256_13, s256_15, s256_16, s256_20, s256_22, s256_25, s256_27, s256_28, s256_30, s256_33, s256_36, s256_37, s256_40, s256_42, s256_44, s256_45, s256_46, s256_47, s256_48, s256_49, s256_52, s256_53, s256_56, s256_57, s256_58, s256_60, s256_63, s256_66, s256_67, s256_69, s256_72, s256_73, s256_76, s256_79, s256_80, true_or, or_true, or_false, false_or, or_self, Int32.reduceLT, Int32.reduceLE, Nat.add_zero, Nat.zero_add, Nat.not_lt_zero, not_false_eq_true, not_true_eq_false, and_assoc, kl_q, kl_i, kl_r, kl_n, kl_0, kl_l, cs_0, cs_i, cs_r, cs_n, cs_l, aRf_s, aRf_n, gi_wl, gi_wr, gl_wi, gl_wl, gl_wr, gr_wi, gr_wl, gr_wr, sh_wi, sh_wl, sh_wr, gl_cp, gr_cp, sh_cp, gl_rw, gr_rw, sh_rw, gi_rl, gr_rl, sh_rl, Option.toList_some, Option.toList_none, List.nil_append, List.cons_append, List.append_nil, Option.some.injEq, Prod.mk.injEq, and_true, true_and, and_self, if_true, if_false, reduceCtorEq, Nat.reduceLeDiff, Nat.reduceLT, Nat.reduceAdd, Nat.reduceEqDiff, false_and, and_false, exists_const, exists_eq_left, exists_eq_left', exists_and_left, and_assoc, nltL, nltR, nleL, nleR, neqL, neqR, naL, naR, nmL, nmR, nI_ltI, nI_leI, nI_eq, nI_add, nI_mul, nI_clamp, n0l, n0r, nm1, nm1', nm1l, nm1r, nm1g, nsL, nI_m1, Nat.add_sub_cancel, vpn, vpL, nclL, le32, leLL, leLN, leNL, leNN, inA, nb0, nb1, gi_wi_n, gi_wi_e, gi_rw_n, gi_rw_e, aWi_rw, ifl, ifl_, ifle, ifle_, ifq, ifq_, ifnq, ifnq_, ifnl, ifnl_, ifnle, ifnle_, z399 ok, r2, dn_s, Nat.le_refl]
    exact hq
/-- the word to look at -/
def bwW (v : Nat → Nat) (l : Nat) : Nat → Int32 × Nat
  | 0 => (-1, l + 1)
  | i + 1 => if v i < (bwW v l i).2 then (nI i, v i) else bwW v l i
theorem bwW_le {v : Nat → Nat} {l : Nat} (h : ∀ i, v i ≤ l) : ∀ i, (bwW v l i).2 ≤ l + 1
  | 0 => Nat.le_refl _
  | i + 1 => by
    have := bwW_le h i
    have := h i
    rw [bwW]
    split
    · show v i ≤ l + 1
      omega
    · omega
theorem tl_dn {w i : Nat} (hW : W ≤ 20) (hi : i < 20) : ∃ e, e ≤ M ∧ tlW g M F L W P gg w i = dn e := by
  unfold tlW
  have hl := twW_len (g := g) (M := M) (F := F) (L := L) (P := P) (gg := gg) (w := w) hW
  rw [wdI_n (by omega) (by omega)]
  split
  · next h1 =>
    rw [List.getElem?_eq_getElem h1]
    have := rdA_lt (f := hdG g F (stW g L gg w) (vo0 g) (dp0 g) P (mud0 g)) (M := M) (L := L) (P := P) (mud := mud0 g) (R := W) _ (List.getElem_mem h1)
    exact ⟨((twW g M F L W P gg w)[i]).1 + 1, this, rfl⟩
  · exact ⟨0, Nat.zero_le _, rfl⟩
end Q25
section Q26
variable {g : aM} {M F L W N D n : Nat}
theorem q_best (cb : CtxB g M F L W N D) (is : ISee g n) (a : Int32) : Qry g 140 257 [some (.ref 32), some (.int a)] [some (.ref 399), some (.int a), none, none, none, none] := by
  have it := cb.2.1
  have hM : M ≤ 6 := it.1
  have hM' : M ≤ 10 := by omega
  have hF : F ≤ 5 := it.2.1
  have hF' : F ≤ 10 := by omega
  have hL : L ≤ 30 := it.2.2.1
  have hW : W ≤ 20 := it.2.2.2.1
  by_cases h0 : M = 0
  · refine ⟨-1, fun d h s => ?_⟩
    obtain ⟨r1, r2, r3, r4, r5, r6, r7, r8⟩ := rd58 it s
    have ok := s.1
    constructor
    · simp (disch := omega) only [s140_0, s140_1, s140_4, s140_7, s140_8, s140_9, s140_12, s140_13, s140_15, s140_18, s140_19, s140_20, s140_21, s140_22, s140_25, s140_26, s140_29, s140_32, true_or, or_true, or_false, false_or, or_self, Int32.reduceLT, Int32.reduceLE, Nat.add_zero, Nat.zero_add, Nat.not_lt_zero, not_false_eq_true, not_true_eq_false, and_assoc, kl_q, kl_i, kl_r, kl_n, kl_0, kl_l, cs_0, cs_i, cs_r, cs_n, cs_l, aRf_s, aRf_n, gi_wl, gi_wr, gl_wi, gl_wl, gl_wr, gr_wi, gr_wl, gr_wr, sh_wi, sh_wl, sh_wr, gl_cp, gr_cp, sh_cp, gl_rw, gr_rw, sh_rw, gi_rl, gr_rl, sh_rl, Option.toList_some, Option.toList_none, List.nil_append, List.cons_append, List.append_nil, Option.some.injEq, Prod.mk.injEq, and_true, true_and, and_self, if_true, if_false, reduceCtorEq, Nat.reduceLeDiff, Nat.reduceLT, Nat.reduceAdd, Nat.reduceEqDiff, false_and, and_false, exists_const, exists_eq_left, exists_eq_left', exists_and_left, and_assoc, nltL, nltR, nleL, nleR, neqL, neqR, naL, naR, nmL, nmR, nI_ltI, nI_leI, nI_eq, nI_add, nI_mul, nI_clamp, n0l, n0r, nm1, nm1', nm1l, nm1r, nm1g, nsL, nI_m1, Nat.add_sub_cancel, vpn, vpL, nclL, le32, leLL, leLN, leNL, leNN, inA, nb0, nb1, gi_wi_n, gi_wi_e, gi_rw_n, gi_rw_e, aWi_rw, ifl, ifl_, ifle, ifle_, ifq, ifq_, ifnq, ifnq_, ifnl, ifnl_, ifnle, ifnle_, z32 ok, c_noRide ok hM' r1, h0, decide_true, bI_0]
      exact s
    · simp (disch := omega) only [s257_0, s257_1, s257_2, s257_5, s257_8, s257_9, s257_10, s257_11, s257_14, s257_15, s257_18, s257_19, s257_20, s257_21, s257_22, s257_25, s257_26, s257_27, s257_28, s257_29, s257_30, s257_34, s257_36, s257_39, s257_40, s257_42, s257_45, s257_47, s257_48, s257_49, s257_52, s257_54, s257_55, s257_58, s257_60, s257_61, s257_63, s257_64, s257_67, s257_70, s257_71, s254_0, s254_1, s254_4, s254_7, s254_8, s254_9, s254_11, s254_14, s254_17, s254_18, s254_21, s254_22, true_or, or_true, or_false, false_or, or_self, Int32.reduceLT, Int32.reduceLE, Nat.add_zero, Nat.zero_add, Nat.not_lt_zero, not_false_eq_true, not_true_eq_false, and_assoc, kl_q, kl_i, kl_r, kl_n, kl_0, kl_l, cs_0, cs_i, cs_r, cs_n, cs_l, aRf_s, aRf_n, gi_wl, gi_wr, gl_wi, gl_wl, gl_wr, gr_wi, gr_wl, gr_wr, sh_wi, sh_wl, sh_wr, gl_cp, gr_cp, sh_cp, gl_rw, gr_rw, sh_rw, gi_rl, gr_rl, sh_rl, Option.toList_some, Option.toList_none, List.nil_append, List.cons_append, List.append_nil, Option.some.injEq, Prod.mk.injEq, and_true, true_and, and_self, if_true, if_false, reduceCtorEq, Nat.reduceLeDiff, Nat.reduceLT, Nat.reduceAdd, Nat.reduceEqDiff, false_and, and_false, exists_const, exists_eq_left, exists_eq_left', exists_and_left, and_assoc, nltL, nltR, nleL, nleR, neqL, neqR, naL, naR, nmL, nmR, nI_ltI, nI_leI, nI_eq, nI_add, nI_mul, nI_clamp, n0l, n0r, nm1, nm1', nm1l, nm1r, nm1g, nsL, nI_m1, Nat.add_sub_cancel, vpn, vpL, nclL, le32, leLL, leLN, leNL, leNN, inA, nb0, nb1, gi_wi_n, gi_wi_e, gi_rw_n, gi_rw_e, aWi_rw, ifl, ifl_, ifle, ifle_, ifq, ifq_, ifnq, ifnq_, ifnl, ifnl_, ifnle, ifnle_, z399 ok, r2, h0, nbI, bI_0]
      exact s
  have h0d : decide (M = 0) = false := by simp [h0]
  have h0' : ¬ M ≤ 0 := by omega
  rcases inR4 (n := 9) (lit := 9) (by omega) rfl a with ⟨hi, hb⟩ | ⟨hi, rfl⟩ | ⟨hi, j, hj, hj2, rfl⟩ | ⟨hi, gg, hg1, hg, rfl⟩
  · have hb1 : a < 1 := by
      have e1 : (1 : Int32).toInt = 1 := rfl
      have e0 : (0 : Int32).toInt = 0 := rfl
      rw [lti, e1]
      rw [lti, e0] at hb
      omega
    refine ⟨-1, fun d h s => ?_⟩
    obtain ⟨r1, r2, r3, r4, r5, r6, r7, r8⟩ := rd58 it s
    have ok := s.1
    constructor
    · simp (disch := omega) only [s140_0, s140_1, s140_4, s140_7, s140_8, s140_9, s140_12, s140_13, s140_15, s140_18, s140_19, s140_20, s140_21, s140_22, s140_25, s140_26, s140_29, s140_32, true_or, or_true, or_false, false_or, or_self, Int32.reduceLT, Int32.reduceLE, Nat.add_zero, Nat.zero_add, Nat.not_lt_zero, not_false_eq_true, not_true_eq_false, and_assoc, kl_q, kl_i, kl_r, kl_n, kl_0, kl_l, cs_0, cs_i, cs_r, cs_n, cs_l, aRf_s, aRf_n, gi_wl, gi_wr, gl_wi, gl_wl, gl_wr, gr_wi, gr_wl, gr_wr, sh_wi, sh_wl, sh_wr, gl_cp, gr_cp, sh_cp, gl_rw, gr_rw, sh_rw, gi_rl, gr_rl, sh_rl, Option.toList_some, Option.toList_none, List.nil_append, List.cons_append, List.append_nil, Option.some.injEq, Prod.mk.injEq, and_true, true_and, and_self, if_true, if_false, reduceCtorEq, Nat.reduceLeDiff, Nat.reduceLT, Nat.reduceAdd, Nat.reduceEqDiff, false_and, and_false, exists_const, exists_eq_left, exists_eq_left', exists_and_left, and_assoc, nltL, nltR, nleL, nleR, neqL, neqR, naL, naR, nmL, nmR, nI_ltI, nI_leI, nI_eq, nI_add, nI_mul, nI_clamp, n0l, n0r, nm1, nm1', nm1l, nm1r, nm1g, nsL, nI_m1, Nat.add_sub_cancel, vpn, vpL, nclL, le32, leLL, leLN, leNL, leNN, inA, nb0, nb1, gi_wi_n, gi_wi_e, gi_rw_n, gi_rw_e, aWi_rw, ifl, ifl_, ifle, ifle_, ifq, ifq_, ifnq, ifnq_, ifnl, ifnl_, ifnle, ifnle_, z32 ok, c_noRide ok hM' r1, h0d, hb1, bI_0]
      exact s
    · simp (disch := omega) only [s257_0, s257_1, s257_2, s257_5, s257_8, s257_9, s257_10, s257_11, s257_14, s257_15, s257_18, s257_19, s257_20, s257_21, s257_22, s257_25, s257_26, s257_27, s257_28, s257_29, s257_30, s257_34, s257_36, s257_39, s257_40, s257_42, s257_45, s257_47, s257_48, s257_49, s257_52, s257_54, s257_55, s257_58, s257_60, s257_61, s257_63, s257_64, s257_67, s257_70, s257_71, s254_0, s254_1, s254_4, s254_7, s254_8, s254_9, s254_11, s254_14, s254_17, s254_18, s254_21, s254_22, true_or, or_true, or_false, false_or, or_self, Int32.reduceLT, Int32.reduceLE, Nat.add_zero, Nat.zero_add, Nat.not_lt_zero, not_false_eq_true, not_true_eq_false, and_assoc, kl_q, kl_i, kl_r, kl_n, kl_0, kl_l, cs_0, cs_i, cs_r, cs_n, cs_l, aRf_s, aRf_n, gi_wl, gi_wr, gl_wi, gl_wl, gl_wr, gr_wi, gr_wl, gr_wr, sh_wi, sh_wl, sh_wr, gl_cp, gr_cp, sh_cp, gl_rw, gr_rw, sh_rw, gi_rl, gr_rl, sh_rl, Option.toList_some, Option.toList_none, List.nil_append, List.cons_append, List.append_nil, Option.some.injEq, Prod.mk.injEq, and_true, true_and, and_self, if_true, if_false, reduceCtorEq, Nat.reduceLeDiff, Nat.reduceLT, Nat.reduceAdd, Nat.reduceEqDiff, false_and, and_false, exists_const, exists_eq_left, exists_eq_left', exists_and_left, and_assoc, nltL, nltR, nleL, nleR, neqL, neqR, naL, naR, nmL, nmR, nI_ltI, nI_leI, nI_eq, nI_add, nI_mul, nI_clamp, n0l, n0r, nm1, nm1', nm1l, nm1r, nm1g, nsL, nI_m1, Nat.add_sub_cancel, vpn, vpL, nclL, le32, leLL, leLN, leNL, leNN, inA, nb0, nb1, gi_wi_n, gi_wi_e, gi_rw_n, gi_rw_e, aWi_rw, ifl, ifl_, ifle, ifle_, ifq, ifq_, ifnq, ifnq_, ifnl, ifnl_, ifnle, ifnle_, z399 ok, r2, h0', m_in, hi, bI_0, bI_1, nbI]
      exact s
  · refine ⟨-1, fun d h s => ?_⟩
    obtain ⟨r1, r2, r3, r4, r5, r6, r7, r8⟩ := rd58 it s
    have ok := s.1
    constructor
    · simp (disch := omega) only [s140_0, s140_1, s140_4, s140_7, s140_8, s140_9, s140_12, s140_13, s140_15, s140_18, s140_19, s140_20, s140_21, s140_22, s140_25, s140_26, s140_29, s140_32, true_or, or_true, or_false, false_or, or_self, Int32.reduceLT, Int32.reduceLE, Nat.add_zero, Nat.zero_add, Nat.not_lt_zero, not_false_eq_true, not_true_eq_false, and_assoc, kl_q, kl_i, kl_r, kl_n, kl_0, kl_l, cs_0, cs_i, cs_r, cs_n, cs_l, aRf_s, aRf_n, gi_wl, gi_wr, gl_wi, gl_wl, gl_wr, gr_wi, gr_wl, gr_wr, sh_wi, sh_wl, sh_wr, gl_cp, gr_cp, sh_cp, gl_rw, gr_rw, sh_rw, gi_rl, gr_rl, sh_rl, Option.toList_some, Option.toList_none, List.nil_append, List.cons_append, List.append_nil, Option.some.injEq, Prod.mk.injEq, and_true, true_and, and_self, if_true, if_false, reduceCtorEq, Nat.reduceLeDiff, Nat.reduceLT, Nat.reduceAdd, Nat.reduceEqDiff, false_and, and_false, exists_const, exists_eq_left, exists_eq_left', exists_and_left, and_assoc, nltL, nltR, nleL, nleR, neqL, neqR, naL, naR, nmL, nmR, nI_ltI, nI_leI, nI_eq, nI_add, nI_mul, nI_clamp, n0l, n0r, nm1, nm1', nm1l, nm1r, nm1g, nsL, nI_m1, Nat.add_sub_cancel, vpn, vpL, nclL, le32, leLL, leLN, leNL, leNN, inA, nb0, nb1, gi_wi_n, gi_wi_e, gi_rw_n, gi_rw_e, aWi_rw, ifl, ifl_, ifle, ifle_, ifq, ifq_, ifnq, ifnq_, ifnl, ifnl_, ifnle, ifnle_, z32 ok, c_noRide ok hM' r1, h0d, bI_0]
      exact s
    · simp (disch := omega) only [s257_0, s257_1, s257_2, s257_5, s257_8, s257_9, s257_10, s257_11, s257_14, s257_15, s257_18, s257_19, s257_20, s257_21, s257_22, s257_25, s257_26, s257_27, s257_28, s257_29, s257_30, s257_34, s257_36, s257_39, s257_40, s257_42, s257_45, s257_47, s257_48, s257_49, s257_52, s257_54, s257_55, s257_58, s257_60, s257_61, s257_63, s257_64, s257_67, s257_70, s257_71, s254_0, s254_1, s254_4, s254_7, s254_8, s254_9, s254_11, s254_14, s254_17, s254_18, s254_21, s254_22, true_or, or_true, or_false, false_or, or_self, Int32.reduceLT, Int32.reduceLE, Nat.add_zero, Nat.zero_add, Nat.not_lt_zero, not_false_eq_true, not_true_eq_false, and_assoc, kl_q, kl_i, kl_r, kl_n, kl_0, kl_l, cs_0, cs_i, cs_r, cs_n, cs_l, aRf_s, aRf_n, gi_wl, gi_wr, gl_wi, gl_wl, gl_wr, gr_wi, gr_wl, gr_wr, sh_wi, sh_wl, sh_wr, gl_cp, gr_cp, sh_cp, gl_rw, gr_rw, sh_rw, gi_rl, gr_rl, sh_rl, Option.toList_some, Option.toList_none, List.nil_append, List.cons_append, List.append_nil, Option.some.injEq, Prod.mk.injEq, and_true, true_and, and_self, if_true, if_false, reduceCtorEq, Nat.reduceLeDiff, Nat.reduceLT, Nat.reduceAdd, Nat.reduceEqDiff, false_and, and_false, exists_const, exists_eq_left, exists_eq_left', exists_and_left, and_assoc, nltL, nltR, nleL, nleR, neqL, neqR, naL, naR, nmL, nmR, nI_ltI, nI_leI, nI_eq, nI_add, nI_mul, nI_clamp, n0l, n0r, nm1, nm1', nm1l, nm1r, nm1g, nsL, nI_m1, Nat.add_sub_cancel, vpn, vpL, nclL, le32, leLL, leLN, leNL, leNN, inA, nb0, nb1, gi_wi_n, gi_wi_e, gi_rw_n, gi_rw_e, aWi_rw, ifl, ifl_, ifle, ifle_, ifq, ifq_, ifnq, ifnq_, ifnl, ifnl_, ifnle, ifnle_, z399 ok, r2, h0', m_in, hi, bI_1, nbI, bI_0]
      exact s
  · refine ⟨-1, fun d h s => ?_⟩
    obtain ⟨r1, r2, r3, r4, r5, r6, r7, r8⟩ := rd58 it s
    have ok := s.1
    constructor
    · simp (disch := omega) only [s140_0, s140_1, s140_4, s140_7, s140_8, s140_9, s140_12, s140_13, s140_15, s140_18, s140_19, s140_20, s140_21, s140_22, s140_25, s140_26, s140_29, s140_32, true_or, or_true, or_false, false_or, or_self, Int32.reduceLT, Int32.reduceLE, Nat.add_zero, Nat.zero_add, Nat.not_lt_zero, not_false_eq_true, not_true_eq_false, and_assoc, kl_q, kl_i, kl_r, kl_n, kl_0, kl_l, cs_0, cs_i, cs_r, cs_n, cs_l, aRf_s, aRf_n, gi_wl, gi_wr, gl_wi, gl_wl, gl_wr, gr_wi, gr_wl, gr_wr, sh_wi, sh_wl, sh_wr, gl_cp, gr_cp, sh_cp, gl_rw, gr_rw, sh_rw, gi_rl, gr_rl, sh_rl, Option.toList_some, Option.toList_none, List.nil_append, List.cons_append, List.append_nil, Option.some.injEq, Prod.mk.injEq, and_true, true_and, and_self, if_true, if_false, reduceCtorEq, Nat.reduceLeDiff, Nat.reduceLT, Nat.reduceAdd, Nat.reduceEqDiff, false_and, and_false, exists_const, exists_eq_left, exists_eq_left', exists_and_left, and_assoc, nltL, nltR, nleL, nleR, neqL, neqR, naL, naR, nmL, nmR, nI_ltI, nI_leI, nI_eq, nI_add, nI_mul, nI_clamp, n0l, n0r, nm1, nm1', nm1l, nm1r, nm1g, nsL, nI_m1, Nat.add_sub_cancel, vpn, vpL, nclL, le32, leLL, leLN, leNL, leNN, inA, nb0, nb1, gi_wi_n, gi_wi_e, gi_rw_n, gi_rw_e, aWi_rw, ifl, ifl_, ifle, ifle_, ifq, ifq_, ifnq, ifnq_, ifnl, ifnl_, ifnle, ifnle_, z32 ok, c_noRide ok hM' r1, h0d, bI_0]
      exact s
    · simp (disch := omega) only [s257_0, s257_1, s257_2, s257_5, s257_8, s257_9, s257_10, s257_11, s257_14, s257_15, s257_18, s257_19, s257_20, s257_21, s257_22, s257_25, s257_26, s257_27, s257_28, s257_29, s257_30, s257_34, s257_36, s257_39, s257_40, s257_42, s257_45, s257_47, s257_48, s257_49, s257_52, s257_54, s257_55, s257_58, s257_60, s257_61, s257_63, s257_64, s257_67, s257_70, s257_71, s254_0, s254_1, s254_4, s254_7, s254_8, s254_9, s254_11, s254_14, s254_17, s254_18, s254_21, s254_22, true_or, or_true, or_false, false_or, or_self, Int32.reduceLT, Int32.reduceLE, Nat.add_zero, Nat.zero_add, Nat.not_lt_zero, not_false_eq_true, not_true_eq_false, and_assoc, kl_q, kl_i, kl_r, kl_n, kl_0, kl_l, cs_0, cs_i, cs_r, cs_n, cs_l, aRf_s, aRf_n, gi_wl, gi_wr, gl_wi, gl_wl, gl_wr, gr_wi, gr_wl, gr_wr, sh_wi, sh_wl, sh_wr, gl_cp, gr_cp, sh_cp, gl_rw, gr_rw, sh_rw, gi_rl, gr_rl, sh_rl, Option.toList_some, Option.toList_none, List.nil_append, List.cons_append, List.append_nil, Option.some.injEq, Prod.mk.injEq, and_true, true_and, and_self, if_true, if_false, reduceCtorEq, Nat.reduceLeDiff, Nat.reduceLT, Nat.reduceAdd, Nat.reduceEqDiff, false_and, and_false, exists_const, exists_eq_left, exists_eq_left', exists_and_left, and_assoc, nltL, nltR, nleL, nleR, neqL, neqR, naL, naR, nmL, nmR, nI_ltI, nI_leI, nI_eq, nI_add, nI_mul, nI_clamp, n0l, n0r, nm1, nm1', nm1l, nm1r, nm1g, nsL, nI_m1, Nat.add_sub_cancel, vpn, vpL, nclL, le32, leLL, leLN, leNL, leNN, inA, nb0, nb1, gi_wi_n, gi_wi_e, gi_rw_n, gi_rw_e, aWi_rw, ifl, ifl_, ifle, ifle_, ifq, ifq_, ifnq, ifnq_, ifnl, ifnl_, ifnle, ifnle_, z399 ok, r2, h0', m_in, hi, bI_1, nbI, bI_0]
      exact s
  obtain ⟨P, c⟩ := cb.c0 (by omega)
  obtain ⟨fl, hfl⟩ : ∃ fl, fl = flW (SO g M n (tlW g M F L W P gg)) 10 := ⟨_, rfl⟩
  have f7 : fl.length ≤ 7 := by
    have e9 := fl_9 (g := g) (M := M) (n := n) (T := tlW g M F L W P gg) (9 - M) (by omega)
    rw [show M + (9 - M) = 9 by omega] at e9
    have l3 := flW_len (SO g M n (tlW g M F L W P gg)) M
    rw [hfl, flW, e9]
    split
    · rw [List.length_append, List.length_singleton]
      omega
    · omega
  have hfw : ∀ w ∈ fl, w < 10 := fun w hw => by
    rw [hfl] at hw
    exact (flW_lt _ _ w hw).1
  obtain ⟨v, hv⟩ : ∃ v : Nat → Nat, v = fun i => mAW (fun w => tlW g M F L W P gg w i) fl fl.length := ⟨_, rfl⟩
  have hvl : ∀ i, v i ≤ fl.length := fun i => by
    rw [hv]
    exact mAW_le _ _ _
  have hbl := bwW_le hvl
  refine ⟨if fl.length = 0 then -1 else (bwW v fl.length 20).1, fun d h s => ?_⟩
  obtain ⟨r1, r2, r3, r4, r5, r6, r7, r8⟩ := rd58 it s
  obtain ⟨w1, w2, w3, w4, w5, w6⟩ := rdNow cb.2.2.2.2.1 s
  have ok := s.1
  constructor
  · simp (disch := omega) only [s140_0, s140_1, s140_4, s140_7, s140_8, s140_9, s140_12, s140_13, s140_15, s140_18, s140_19, s140_20, s140_21, s140_22, s140_25, s140_26, s140_29, s140_32, true_or, or_true, or_false, false_or, or_self, Int32.reduceLT, Int32.reduceLE, Nat.add_zero, Nat.zero_add, Nat.not_lt_zero, not_false_eq_true, not_true_eq_false, and_assoc, kl_q, kl_i, kl_r, kl_n, kl_0, kl_l, cs_0, cs_i, cs_r, cs_n, cs_l, aRf_s, aRf_n, gi_wl, gi_wr, gl_wi, gl_wl, gl_wr, gr_wi, gr_wl, gr_wr, sh_wi, sh_wl, sh_wr, gl_cp, gr_cp, sh_cp, gl_rw, gr_rw, sh_rw, gi_rl, gr_rl, sh_rl, Option.toList_some, Option.toList_none, List.nil_append, List.cons_append, List.append_nil, Option.some.injEq, Prod.mk.injEq, and_true, true_and, and_self, if_true, if_false, reduceCtorEq, Nat.reduceLeDiff, Nat.reduceLT, Nat.reduceAdd, Nat.reduceEqDiff, false_and, and_false, exists_const, exists_eq_left, exists_eq_left', exists_and_left, and_assoc, nltL, nltR, nleL, nleR, neqL, neqR, naL, naR, nmL, nmR, nI_ltI, nI_leI, nI_eq, nI_add, nI_mul, nI_clamp, n0l, n0r, nm1, nm1', nm1l, nm1r, nm1g, nsL, nI_m1, Nat.add_sub_cancel, vpn, vpL, nclL, le32, leLL, leLN, leNL, leNN, inA, nb0, nb1, gi_wi_n, gi_wi_e, gi_rw_n, gi_rw_e, aWi_rw, ifl, ifl_, ifle, ifle_, ifq, ifq_, ifnq, ifnq_, ifnl, ifnl_, ifnle, ifnle_, z32 ok, c_noRide ok hM' r1, h0d, bI_0]
    refine c_weigh c is s hg (fun h2 s2 fs => ?_)
    rw [← hfl] at fs
    have ok := s2.1
    simp (disch := omega) only [s140_0, s140_1, s140_4, s140_7, s140_8, s140_9, s140_12, s140_13, s140_15, s140_18, s140_19, s140_20, s140_21, s140_22, s140_25, s140_26, s140_29, s140_32, s65_0, s65_1, s65_2, s65_3, s65_6, s65_7, s65_8, s65_9, s65_10, s65_12, s65_14, s65_17, s65_18, s65_21, s65_24, s65_25, s65_26, s65_29, s65_31, s65_33, s65_34, s65_37, s65_39, s65_40, s65_41, s65_42, s65_45, s65_48, s65_49, true_or, or_true, or_false, false_or, or_self, Int32.reduceLT, Int32.reduceLE, Nat.add_zero, Nat.zero_add, Nat.not_lt_zero, not_false_eq_true, not_true_eq_false, and_assoc, kl_q, kl_i, kl_r, kl_n, kl_0, kl_l, cs_0, cs_i, cs_r, cs_n, cs_l, aRf_s, aRf_n, gi_wl, gi_wr, gl_wi, gl_wl, gl_wr, gr_wi, gr_wl, gr_wr, sh_wi, sh_wl, sh_wr, gl_cp, gr_cp, sh_cp, gl_rw, gr_rw, sh_rw, gi_rl, gr_rl, sh_rl, Option.toList_some, Option.toList_none, List.nil_append, List.cons_append, List.append_nil, Option.some.injEq, Prod.mk.injEq, and_true, true_and, and_self, if_true, if_false, reduceCtorEq, Nat.reduceLeDiff, Nat.reduceLT, Nat.reduceAdd, Nat.reduceEqDiff, false_and, and_false, exists_const, exists_eq_left, exists_eq_left', exists_and_left, and_assoc, nltL, nltR, nleL, nleR, neqL, neqR, naL, naR, nmL, nmR, nI_ltI, nI_leI, nI_eq, nI_add, nI_mul, nI_clamp, n0l, n0r, nm1, nm1', nm1l, nm1r, nm1g, nsL, nI_m1, Nat.add_sub_cancel, vpn, vpL, nclL, le32, leLL, leLN, leNL, leNN, inA, nb0, nb1, gi_wi_n, gi_wi_e, gi_rw_n, gi_rw_e, aWi_rw, ifl, ifl_, ifle, ifle_, ifq, ifq_, ifnq, ifnq_, ifnl, ifnl_, ifnle, ifnle_, z32 ok, z358 ok, r32_12 ok, fs.1]
    by_cases hl : fl.length = 0
    · rw [s65_11]
      simp (disch := omega) only [s140_0, s140_1, s140_4, s140_7, s140_8, s140_9, s140_12, s140_13, s140_15, s140_18, s140_19, s140_20, s140_21, s140_22, s140_25, s140_26, s140_29, s140_32, s65_0, s65_1, s65_2, s65_3, s65_6, s65_7, s65_8, s65_9, s65_10, s65_12, s65_14, s65_17, s65_18, s65_21, s65_24, s65_25, s65_26, s65_29, s65_31, s65_33, s65_34, s65_37, s65_39, s65_40, s65_41, s65_42, s65_45, s65_48, s65_49, true_or, or_true, or_false, false_or, or_self, Int32.reduceLT, Int32.reduceLE, Nat.add_zero, Nat.zero_add, Nat.not_lt_zero, not_false_eq_true, not_true_eq_false, and_assoc, kl_q, kl_i, kl_r, kl_n, kl_0, kl_l, cs_0, cs_i, cs_r, cs_n, cs_l, aRf_s, aRf_n, gi_wl, gi_wr, gl_wi, gl_wl, gl_wr, gr_wi, gr_wl, gr_wr, sh_wi, sh_wl, sh_wr, gl_cp, gr_cp, sh_cp, gl_rw, gr_rw, sh_rw, gi_rl, gr_rl, sh_rl, Option.toList_some, Option.toList_none, List.nil_append, List.cons_append, List.append_nil, Option.some.injEq, Prod.mk.injEq, and_true, true_and, and_self, if_true, if_false, reduceCtorEq, Nat.reduceLeDiff, Nat.reduceLT, Nat.reduceAdd, Nat.reduceEqDiff, false_and, and_false, exists_const, exists_eq_left, exists_eq_left', exists_and_left, and_assoc, nltL, nltR, nleL, nleR, neqL, neqR, naL, naR, nmL, nmR, nI_ltI, nI_leI, nI_eq, nI_add, nI_mul, nI_clamp, n0l, n0r, nm1, nm1', nm1l, nm1r, nm1g, nsL, nI_m1, Nat.add_sub_cancel, vpn, vpL, nclL, le32, leLL, leLN, leNL, leNN, inA, nb0, nb1, gi_wi_n, gi_wi_e, gi_rw_n, gi_rw_e, aWi_rw, ifl, ifl_, ifle, ifle_, ifq, ifq_, ifnq, ifnq_, ifnl, ifnl_, ifnle, ifnle_, z32 ok, z358 ok, fs.1, hl]
      exact s2
    · rw [if_neg hl]
      refine aLoop 20 (fun i lv h' => ∃ z, lv = [some (.ref 358), some (.int (bwW v fl.length i).1), some (.int (nI (bwW v fl.length i).2)), some (.int (nI i)), z] ∧ h' = h2) ?_ ?_ 0 _ _ (Nat.zero_le _) ⟨_, rfl, rfl⟩
      · rintro i lv h' hi2 ⟨z, rfl, rfl⟩ hk
        have e1 : ¬ 20 ≤ i := by omega
        have e2 : ¬ fl.length ≤ 0 := by omega
        have b1 := hbl i
        have b2 := hvl i
        rw [s65_11]
        simp (disch := omega) only [s65_0, s65_1, s65_2, s65_3, s65_6, s65_7, s65_8, s65_9, s65_10, s65_12, s65_14, s65_17, s65_18, s65_21, s65_24, s65_25, s65_26, s65_29, s65_31, s65_33, s65_34, s65_37, s65_39, s65_40, s65_41, s65_42, s65_45, s65_48, s65_49, true_or, or_true, or_false, false_or, or_self, Int32.reduceLT, Int32.reduceLE, Nat.add_zero, Nat.zero_add, Nat.not_lt_zero, not_false_eq_true, not_true_eq_false, and_assoc, kl_q, kl_i, kl_r, kl_n, kl_0, kl_l, cs_0, cs_i, cs_r, cs_n, cs_l, aRf_s, aRf_n, gi_wl, gi_wr, gl_wi, gl_wl, gl_wr, gr_wi, gr_wl, gr_wr, sh_wi, sh_wl, sh_wr, gl_cp, gr_cp, sh_cp, gl_rw, gr_rw, sh_rw, gi_rl, gr_rl, sh_rl, Option.toList_some, Option.toList_none, List.nil_append, List.cons_append, List.append_nil, Option.some.injEq, Prod.mk.injEq, and_true, true_and, and_self, if_true, if_false, reduceCtorEq, Nat.reduceLeDiff, Nat.reduceLT, Nat.reduceAdd, Nat.reduceEqDiff, false_and, and_false, exists_const, exists_eq_left, exists_eq_left', exists_and_left, and_assoc, nltL, nltR, nleL, nleR, neqL, neqR, naL, naR, nmL, nmR, nI_ltI, nI_leI, nI_eq, nI_add, nI_mul, nI_clamp, n0l, n0r, nm1, nm1', nm1l, nm1r, nm1g, nsL, nI_m1, Nat.add_sub_cancel, vpn, vpL, nclL, le32, leLL, leLN, leNL, leNN, inA, nb0, nb1, gi_wi_n, gi_wi_e, gi_rw_n, gi_rw_e, aWi_rw, ifl, ifl_, ifle, ifle_, ifq, ifq_, ifnq, ifnq_, ifnl, ifnl_, ifnle, ifnle_, z358 ok, fs.1, e1, e2]
        refine c_alike ok f7 hi2 fs ?_
        rw [show mAW (fun w => tlW g M F L W P gg w i) fl fl.length = v i by rw [hv]]
        have hk' := hk _ h' ⟨some (.int (nI (v i))), rfl, rfl⟩
        rw [bwW] at hk'
        simp (disch := omega) only [s65_0, s65_1, s65_2, s65_3, s65_6, s65_7, s65_8, s65_9, s65_10, s65_12, s65_14, s65_17, s65_18, s65_21, s65_24, s65_25, s65_26, s65_29, s65_31, s65_33, s65_34, s65_37, s65_39, s65_40, s65_41, s65_42, s65_45, s65_48, s65_49, true_or, or_true, or_false, false_or, or_self, Int32.reduceLT, Int32.reduceLE, Nat.add_zero, Nat.zero_add, Nat.not_lt_zero, not_false_eq_true, not_true_eq_false, and_assoc, kl_q, kl_i, kl_r, kl_n, kl_0, kl_l, cs_0, cs_i, cs_r, cs_n, cs_l, aRf_s, aRf_n, gi_wl, gi_wr, gl_wi, gl_wl, gl_wr, gr_wi, gr_wl, gr_wr, sh_wi, sh_wl, sh_wr, gl_cp, gr_cp, sh_cp, gl_rw, gr_rw, sh_rw, gi_rl, gr_rl, sh_rl, Option.toList_some, Option.toList_none, List.nil_append, List.cons_append, List.append_nil, Option.some.injEq, Prod.mk.injEq, and_true, true_and, and_self, if_true, if_false, reduceCtorEq, Nat.reduceLeDiff, Nat.reduceLT, Nat.reduceAdd, Nat.reduceEqDiff, false_and, and_false, exists_const, exists_eq_left, exists_eq_left', exists_and_left, and_assoc, nltL, nltR, nleL, nleR, neqL, neqR, naL, naR, nmL, nmR, nI_ltI, nI_leI, nI_eq, nI_add, nI_mul, nI_clamp, n0l, n0r, nm1, nm1', nm1l, nm1r, nm1g, nsL, nI_m1, Nat.add_sub_cancel, vpn, vpL, nclL, le32, leLL, leLN, leNL, leNN, inA, nb0, nb1, gi_wi_n, gi_wi_e, gi_rw_n, gi_rw_e, aWi_rw, ifl, ifl_, ifle, ifle_, ifq, ifq_, ifnq, ifnq_, ifnl, ifnl_, ifnle, ifnle_]
        by_cases h3 : v i < (bwW v fl.length i).2
        · rw [if_neg (by omega)]
          rw [if_pos h3] at hk'
          exact hk'
        · rw [if_pos (by omega)]
          rw [if_neg h3] at hk'
          exact hk'
      · rintro lv h' ⟨z, rfl, rfl⟩
        rw [s65_11]
        simp (disch := omega) only [s140_0, s140_1, s140_4, s140_7, s140_8, s140_9, s140_12, s140_13, s140_15, s140_18, s140_19, s140_20, s140_21, s140_22, s140_25, s140_26, s140_29, s140_32, s65_0, s65_1, s65_2, s65_3, s65_6, s65_7, s65_8, s65_9, s65_10, s65_12, s65_14, s65_17, s65_18, s65_21, s65_24, s65_25, s65_26, s65_29, s65_31, s65_33, s65_34, s65_37, s65_39, s65_40, s65_41, s65_42, s65_45, s65_48, s65_49, true_or, or_true, or_false, false_or, or_self, Int32.reduceLT, Int32.reduceLE, Nat.add_zero, Nat.zero_add, Nat.not_lt_zero, not_false_eq_true, not_true_eq_false, and_assoc, kl_q, kl_i, kl_r, kl_n, kl_0, kl_l, cs_0, cs_i, cs_r, cs_n, cs_l, aRf_s, aRf_n, gi_wl, gi_wr, gl_wi, gl_wl, gl_wr, gr_wi, gr_wl, gr_wr, sh_wi, sh_wl, sh_wr, gl_cp, gr_cp, sh_cp, gl_rw, gr_rw, sh_rw, gi_rl, gr_rl, sh_rl, Option.toList_some, Option.toList_none, List.nil_append, List.cons_append, List.append_nil, Option.some.injEq, Prod.mk.injEq, and_true, true_and, and_self, if_true, if_false, reduceCtorEq, Nat.reduceLeDiff, Nat.reduceLT, Nat.reduceAdd, Nat.reduceEqDiff, false_and, and_false, exists_const, exists_eq_left, exists_eq_left', exists_and_left, and_assoc, nltL, nltR, nleL, nleR, neqL, neqR, naL, naR, nmL, nmR, nI_ltI, nI_leI, nI_eq, nI_add, nI_mul, nI_clamp, n0l, n0r, nm1, nm1', nm1l, nm1r, nm1g, nsL, nI_m1, Nat.add_sub_cancel, vpn, vpL, nclL, le32, leLL, leLN, leNL, leNN, inA, nb0, nb1, gi_wi_n, gi_wi_e, gi_rw_n, gi_rw_e, aWi_rw, ifl, ifl_, ifle, ifle_, ifq, ifq_, ifnq, ifnq_, ifnl, ifnl_, ifnle, ifnle_, Nat.le_refl]
        exact s2
  · simp (disch := omega) only [s257_0, s257_1, s257_2, s257_5, s257_8, s257_9, s257_10, s257_11, s257_14, s257_15, s257_18, s257_19, s257_20, s257_21, s257_22, s257_25, s257_26, s257_27, s257_28, s257_29, s257_30, s257_34, s257_36, s257_39, s257_40, s257_42, s257_45, s257_47, s257_48, s257_49, s257_52, s257_54, s257_55, s257_58, s257_60, s257_61, s257_63, s257_64, s257_67, s257_70, s257_71, s254_0, s254_1, s254_4, s254_7, s254_8, s254_9, s254_11, s254_14, s254_17, s254_18, s254_21, s254_22, true_or, or_true, or_false, false_or, or_self, Int32.reduceLT, Int32.reduceLE, Nat.add_zero, Nat.zero_add, Nat.not_lt_zero, not_false_eq_true, not_true_eq_false, and_assoc, kl_q, kl_i, kl_r, kl_n, kl_0, kl_l, cs_0, cs_i, cs_r, cs_n, cs_l, aRf_s, aRf_n, gi_wl, gi_wr, gl_wi, gl_wl, gl_wr, gr_wi, gr_wl, gr_wr, sh_wi, sh_wl, sh_wr, gl_cp, gr_cp, sh_cp, gl_rw, gr_rw, sh_rw, gi_rl, gr_rl, sh_rl, Option.toList_some, Option.toList_none, List.nil_append, List.cons_append, List.append_nil, Option.some.injEq, Prod.mk.injEq, and_true, true_and, and_self, if_true, if_false, reduceCtorEq, Nat.reduceLeDiff, Nat.reduceLT, Nat.reduceAdd, Nat.reduceEqDiff, false_and, and_false, exists_const, exists_eq_left, exists_eq_left', exists_and_left, and_assoc, nltL, nltR, nleL, nleR, neqL, neqR, naL, naR, nmL, nmR, nI_ltI, nI_leI, nI_eq, nI_add, nI_mul, nI_clamp, n0l, n0r, nm1, nm1', nm1l, nm1r, nm1g, nsL, nI_m1, Nat.add_sub_cancel, vpn, vpL, nclL, le32, leLL, leLN, leNL, leNN, inA, nb0, nb1, gi_wi_n, gi_wi_e, gi_rw_n, gi_rw_e, aWi_rw, ifl, ifl_, ifle, ifle_, ifq, ifq_, ifnq, ifnq_, ifnl, ifnl_, ifnle, ifnle_, z399 ok, r2, h0', m_in, hi, bI_0, bI_1, nbI, Bool.true_eq_false]
    refine m_who (i := 0) c is s (by omega) hi hg (by decide) (fun h2 s2 => ?_)
    rw [← hfl]
    have ok := s2.1
    by_cases hl : fl.length = 0
    · have e1 : whX fl 0 = -1 := by
        unfold whX
        rw [if_neg (by decide), if_neg, ]
        rintro ⟨q1, q2⟩
        rw [hl] at q2
        exact absurd q2 (by decide)
      simp (disch := omega) only [s257_0, s257_1, s257_2, s257_5, s257_8, s257_9, s257_10, s257_11, s257_14, s257_15, s257_18, s257_19, s257_20, s257_21, s257_22, s257_25, s257_26, s257_27, s257_28, s257_29, s257_30, s257_34, s257_36, s257_39, s257_40, s257_42, s257_45, s257_47, s257_48, s257_49, s257_52, s257_54, s257_55, s257_58, s257_60, s257_61, s257_63, s257_64, s257_67, s257_70, s257_71, true_or, or_true, or_false, false_or, or_self, Int32.reduceLT, Int32.reduceLE, Nat.add_zero, Nat.zero_add, Nat.not_lt_zero, not_false_eq_true, not_true_eq_false, and_assoc, kl_q, kl_i, kl_r, kl_n, kl_0, kl_l, cs_0, cs_i, cs_r, cs_n, cs_l, aRf_s, aRf_n, gi_wl, gi_wr, gl_wi, gl_wl, gl_wr, gr_wi, gr_wl, gr_wr, sh_wi, sh_wl, sh_wr, gl_cp, gr_cp, sh_cp, gl_rw, gr_rw, sh_rw, gi_rl, gr_rl, sh_rl, Option.toList_some, Option.toList_none, List.nil_append, List.cons_append, List.append_nil, Option.some.injEq, Prod.mk.injEq, and_true, true_and, and_self, if_true, if_false, reduceCtorEq, Nat.reduceLeDiff, Nat.reduceLT, Nat.reduceAdd, Nat.reduceEqDiff, false_and, and_false, exists_const, exists_eq_left, exists_eq_left', exists_and_left, and_assoc, nltL, nltR, nleL, nleR, neqL, neqR, naL, naR, nmL, nmR, nI_ltI, nI_leI, nI_eq, nI_add, nI_mul, nI_clamp, n0l, n0r, nm1, nm1', nm1l, nm1r, nm1g, nsL, nI_m1, Nat.add_sub_cancel, vpn, vpL, nclL, le32, leLL, leLN, leNL, leNN, inA, nb0, nb1, gi_wi_n, gi_wi_e, gi_rw_n, gi_rw_e, aWi_rw, ifl, ifl_, ifle, ifle_, ifq, ifq_, ifnq, ifnq_, ifnl, ifnl_, ifnle, ifnle_, e1, hl]
      exact s2
    · have e1 : ∃ w, w < 10 ∧ whX fl 0 = nI w := by
        have hl2 : 0 < fl.length := by omega
        refine ⟨fl[0], hfw _ (List.getElem_mem hl2), ?_⟩
        unfold whX cN
        rw [if_neg (by decide), if_pos ⟨by decide, (nI_ltI (a := 0) (by omega) (by omega)).mpr hl2⟩, show (0 : Int32).toNatClampNeg = 0 from rfl, List.getElem?_eq_getElem hl2]
        rfl
      obtain ⟨w0, hw0, e1⟩ := e1
      rw [if_neg hl]
      simp (disch := omega) only [s257_0, s257_1, s257_2, s257_5, s257_8, s257_9, s257_10, s257_11, s257_14, s257_15, s257_18, s257_19, s257_20, s257_21, s257_22, s257_25, s257_26, s257_27, s257_28, s257_29, s257_30, s257_34, s257_36, s257_39, s257_40, s257_42, s257_45, s257_47, s257_48, s257_49, s257_52, s257_54, s257_55, s257_58, s257_60, s257_61, s257_63, s257_64, s257_67, s257_70, s257_71, true_or, or_true, or_false, false_or, or_self, Int32.reduceLT, Int32.reduceLE, Nat.add_zero, Nat.zero_add, Nat.not_lt_zero, not_false_eq_true, not_true_eq_false, and_assoc, kl_q, kl_i, kl_r, kl_n, kl_0, kl_l, cs_0, cs_i, cs_r, cs_n, cs_l, aRf_s, aRf_n, gi_wl, gi_wr, gl_wi, gl_wl, gl_wr, gr_wi, gr_wl, gr_wr, sh_wi, sh_wl, sh_wr, gl_cp, gr_cp, sh_cp, gl_rw, gr_rw, sh_rw, gi_rl, gr_rl, sh_rl, Option.toList_some, Option.toList_none, List.nil_append, List.cons_append, List.append_nil, Option.some.injEq, Prod.mk.injEq, and_true, true_and, and_self, if_true, if_false, reduceCtorEq, Nat.reduceLeDiff, Nat.reduceLT, Nat.reduceAdd, Nat.reduceEqDiff, false_and, and_false, exists_const, exists_eq_left, exists_eq_left', exists_and_left, and_assoc, nltL, nltR, nleL, nleR, neqL, neqR, naL, naR, nmL, nmR, nI_ltI, nI_leI, nI_eq, nI_add, nI_mul, nI_clamp, n0l, n0r, nm1, nm1', nm1l, nm1r, nm1g, nsL, nI_m1, Nat.add_sub_cancel, vpn, vpL, nclL, le32, leLL, leLN, leNL, leNN, inA, nb0, nb1, gi_wi_n, gi_wi_e, gi_rw_n, gi_rw_e, aWi_rw, ifl, ifl_, ifle, ifle_, ifq, ifq_, ifnq, ifnq_, ifnl, ifnl_, ifnle, ifnle_, z399 ok, e1]
      refine m_layRows c s2 hg (fun h3 s3 rw3 => ?_)
      simp (disch := omega) only [s257_0, s257_1, s257_2, s257_5, s257_8, s257_9, s257_10, s257_11, s257_14, s257_15, s257_18, s257_19, s257_20, s257_21, s257_22, s257_25, s257_26, s257_27, s257_28, s257_29, s257_30, s257_34, s257_36, s257_39, s257_40, s257_42, s257_45, s257_47, s257_48, s257_49, s257_52, s257_54, s257_55, s257_58, s257_60, s257_61, s257_63, s257_64, s257_67, s257_70, s257_71, true_or, or_true, or_false, false_or, or_self, Int32.reduceLT, Int32.reduceLE, Nat.add_zero, Nat.zero_add, Nat.not_lt_zero, not_false_eq_true, not_true_eq_false, and_assoc, kl_q, kl_i, kl_r, kl_n, kl_0, kl_l, cs_0, cs_i, cs_r, cs_n, cs_l, aRf_s, aRf_n, gi_wl, gi_wr, gl_wi, gl_wl, gl_wr, gr_wi, gr_wl, gr_wr, sh_wi, sh_wl, sh_wr, gl_cp, gr_cp, sh_cp, gl_rw, gr_rw, sh_rw, gi_rl, gr_rl, sh_rl, Option.toList_some, Option.toList_none, List.nil_append, List.cons_append, List.append_nil, Option.some.injEq, Prod.mk.injEq, and_true, true_and, and_self, if_true, if_false, reduceCtorEq, Nat.reduceLeDiff, Nat.reduceLT, Nat.reduceAdd, Nat.reduceEqDiff, false_and, and_false, exists_const, exists_eq_left, exists_eq_left', exists_and_left, and_assoc, nltL, nltR, nleL, nleR, neqL, neqR, naL, naR, nmL, nmR, nI_ltI, nI_leI, nI_eq, nI_add, nI_mul, nI_clamp, n0l, n0r, nm1, nm1', nm1l, nm1r, nm1g, nsL, nI_m1, Nat.add_sub_cancel, vpn, vpL, nclL, le32, leLL, leLN, leNL, leNN, inA, nb0, nb1, gi_wi_n, gi_wi_e, gi_rw_n, gi_rw_e, aWi_rw, ifl, ifl_, ifle, ifle_, ifq, ifq_, ifnq, ifnq_, ifnl, ifnl_, ifnle, ifnle_]
      refine aLoop 20 (fun i lv h' => ∃ z, lv = [some (.ref 399), some (.int (nI gg)), some (.int (bwW v fl.length i).1), some (.int (if i = 0 then 0 else nI (bwW v fl.length i).2)), some (.int (nI i)), z] ∧ h' = h3) ?_ ?_ 0 _ _ (Nat.zero_le _) ⟨_, rfl, rfl⟩
      · rintro i lv h' hi2 ⟨z, rfl, rfl⟩ hk
        have ok := s3.1
        have e1 : ¬ 20 ≤ i := by omega
        have b1 := hbl i
        have b2 := hvl i
        rw [s257_32]
        simp (disch := omega) only [s257_0, s257_1, s257_2, s257_5, s257_8, s257_9, s257_10, s257_11, s257_14, s257_15, s257_18, s257_19, s257_20, s257_21, s257_22, s257_25, s257_26, s257_27, s257_28, s257_29, s257_30, s257_34, s257_36, s257_39, s257_40, s257_42, s257_45, s257_47, s257_48, s257_49, s257_52, s257_54, s257_55, s257_58, s257_60, s257_61, s257_63, s257_64, s257_67, s257_70, s257_71, true_or, or_true, or_false, false_or, or_self, Int32.reduceLT, Int32.reduceLE, Nat.add_zero, Nat.zero_add, Nat.not_lt_zero, not_false_eq_true, not_true_eq_false, and_assoc, kl_q, kl_i, kl_r, kl_n, kl_0, kl_l, cs_0, cs_i, cs_r, cs_n, cs_l, aRf_s, aRf_n, gi_wl, gi_wr, gl_wi, gl_wl, gl_wr, gr_wi, gr_wl, gr_wr, sh_wi, sh_wl, sh_wr, gl_cp, gr_cp, sh_cp, gl_rw, gr_rw, sh_rw, gi_rl, gr_rl, sh_rl, Option.toList_some, Option.toList_none, List.nil_append, List.cons_append, List.append_nil, Option.some.injEq, Prod.mk.injEq, and_true, true_and, and_self, if_true, if_false, reduceCtorEq, Nat.reduceLeDiff, Nat.reduceLT, Nat.reduceAdd, Nat.reduceEqDiff, false_and, and_false, exists_const, exists_eq_left, exists_eq_left', exists_and_left, and_assoc, nltL, nltR, nleL, nleR, neqL, neqR, naL, naR, nmL, nmR, nI_ltI, nI_leI, nI_eq, nI_add, nI_mul, nI_clamp, n0l, n0r, nm1, nm1', nm1l, nm1r, nm1g, nsL, nI_m1, Nat.add_sub_cancel, vpn, vpL, nclL, le32, leLL, leLN, leNL, leNN, inA, nb0, nb1, gi_wi_n, gi_wi_e, gi_rw_n, gi_rw_e, aWi_rw, ifl, ifl_, ifle, ifle_, ifq, ifq_, ifnq, ifnq_, ifnl, ifnl_, ifnle, ifnle_, z399 ok, e1]
        refine m_tell it is s3 hi2 (fun w hw hB i hi => rw3 w hw hB i hi) ?_
        have ev : mTW (fun w => tlW g M F L W P gg w i) (flW (SO g M n (tlW g M F L W P gg)) 10) (M + 1) = v i := by
          rw [← mAT (fun w hw => tl_dn hW hi2), ← hfl, hv]
        rw [ev]
        have hk' := hk _ h' ⟨some (.int (nI (v i))), rfl, rfl⟩
        rw [bwW, if_neg (show ¬ i + 1 = 0 by omega)] at hk'
        by_cases hi0 : i = 0
        · subst hi0
          rw [if_pos (show v 0 < (bwW v fl.length 0).2 by show v 0 < fl.length + 1; omega)] at hk'
          simp (disch := omega) only [s257_0, s257_1, s257_2, s257_5, s257_8, s257_9, s257_10, s257_11, s257_14, s257_15, s257_18, s257_19, s257_20, s257_21, s257_22, s257_25, s257_26, s257_27, s257_28, s257_29, s257_30, s257_34, s257_36, s257_39, s257_40, s257_42, s257_45, s257_47, s257_48, s257_49, s257_52, s257_54, s257_55, s257_58, s257_60, s257_61, s257_63, s257_64, s257_67, s257_70, s257_71, true_or, or_true, or_false, false_or, or_self, Int32.reduceLT, Int32.reduceLE, Nat.add_zero, Nat.zero_add, Nat.not_lt_zero, not_false_eq_true, not_true_eq_false, and_assoc, kl_q, kl_i, kl_r, kl_n, kl_0, kl_l, cs_0, cs_i, cs_r, cs_n, cs_l, aRf_s, aRf_n, gi_wl, gi_wr, gl_wi, gl_wl, gl_wr, gr_wi, gr_wl, gr_wr, sh_wi, sh_wl, sh_wr, gl_cp, gr_cp, sh_cp, gl_rw, gr_rw, sh_rw, gi_rl, gr_rl, sh_rl, Option.toList_some, Option.toList_none, List.nil_append, List.cons_append, List.append_nil, Option.some.injEq, Prod.mk.injEq, and_true, true_and, and_self, if_true, if_false, reduceCtorEq, Nat.reduceLeDiff, Nat.reduceLT, Nat.reduceAdd, Nat.reduceEqDiff, false_and, and_false, exists_const, exists_eq_left, exists_eq_left', exists_and_left, and_assoc, nltL, nltR, nleL, nleR, neqL, neqR, naL, naR, nmL, nmR, nI_ltI, nI_leI, nI_eq, nI_add, nI_mul, nI_clamp, n0l, n0r, nm1, nm1', nm1l, nm1r, nm1g, nsL, nI_m1, Nat.add_sub_cancel, vpn, vpL, nclL, le32, leLL, leLN, leNL, leNN, inA, nb0, nb1, gi_wi_n, gi_wi_e, gi_rw_n, gi_rw_e, aWi_rw, ifl, ifl_, ifle, ifle_, ifq, ifq_, ifnq, ifnq_, ifnl, ifnl_, ifnle, ifnle_, show (bwW v fl.length 0).1 = -1 from rfl]
          exact hk'
        · have hb1 : ∃ q, q < 20 ∧ (bwW v fl.length i).1 = nI q := by
            have : ∀ j, 0 < j → j ≤ 20 → ∃ q, q < 20 ∧ (bwW v fl.length j).1 = nI q := by
              intro j
              induction j with
              | zero => intro h; omega
              | succ j ih =>
                intro _ hj
                rw [bwW]
                by_cases h3 : v j < (bwW v fl.length j).2
                · rw [if_pos h3]
                  exact ⟨j, by omega, rfl⟩
                · rw [if_neg h3]
                  by_cases hj0 : j = 0
                  · subst hj0
                    exfalso
                    apply h3
                    show v 0 < fl.length + 1
                    have := hvl 0
                    omega
                  · exact ih (by omega) (by omega)
            exact this i (by omega) (by omega)
          obtain ⟨q, hq, eq⟩ := hb1
          rw [if_neg hi0]
          by_cases h3 : v i < (bwW v fl.length i).2
          · rw [if_pos h3] at hk'
            simp (disch := omega) only [s257_0, s257_1, s257_2, s257_5, s257_8, s257_9, s257_10, s257_11, s257_14, s257_15, s257_18, s257_19, s257_20, s257_21, s257_22, s257_25, s257_26, s257_27, s257_28, s257_29, s257_30, s257_34, s257_36, s257_39, s257_40, s257_42, s257_45, s257_47, s257_48, s257_49, s257_52, s257_54, s257_55, s257_58, s257_60, s257_61, s257_63, s257_64, s257_67, s257_70, s257_71, true_or, or_true, or_false, false_or, or_self, Int32.reduceLT, Int32.reduceLE, Nat.add_zero, Nat.zero_add, Nat.not_lt_zero, not_false_eq_true, not_true_eq_false, and_assoc, kl_q, kl_i, kl_r, kl_n, kl_0, kl_l, cs_0, cs_i, cs_r, cs_n, cs_l, aRf_s, aRf_n, gi_wl, gi_wr, gl_wi, gl_wl, gl_wr, gr_wi, gr_wl, gr_wr, sh_wi, sh_wl, sh_wr, gl_cp, gr_cp, sh_cp, gl_rw, gr_rw, sh_rw, gi_rl, gr_rl, sh_rl, Option.toList_some, Option.toList_none, List.nil_append, List.cons_append, List.append_nil, Option.some.injEq, Prod.mk.injEq, and_true, true_and, and_self, if_true, if_false, reduceCtorEq, Nat.reduceLeDiff, Nat.reduceLT, Nat.reduceAdd, Nat.reduceEqDiff, false_and, and_false, exists_const, exists_eq_left, exists_eq_left', exists_and_left, and_assoc, nltL, nltR, nleL, nleR, neqL, neqR, naL, naR, nmL, nmR, nI_ltI, nI_leI, nI_eq, nI_add, nI_mul, nI_clamp, n0l, n0r, nm1, nm1', nm1l, nm1r, nm1g, nsL, nI_m1, Nat.add_sub_cancel, vpn, vpL, nclL, le32, leLL, leLN, leNL, leNN, inA, nb0, nb1, gi_wi_n, gi_wi_e, gi_rw_n, gi_rw_e, aWi_rw, ifl, ifl_, ifle, ifle_, ifq, ifq_, ifnq, ifnq_, ifnl, ifnl_, ifnle, ifnle_, eq, h3]
            exact hk'
          · rw [if_neg h3] at hk'
            rw [eq] at hk'
            simp (disch := omega) only [s257_0, s257_1, s257_2, s257_5, s257_8, s257_9, s257_10, s257_11, s257_14, s257_15, s257_18, s257_19, s257_20, s257_21, s257_22, s257_25, s257_26, s257_27, s257_28, s257_29, s257_30, s257_34, s257_36, s257_39, s257_40, s257_42, s257_45, s257_47, s257_48, s257_49, s257_52, s257_54, s257_55, s257_58, s257_60, s257_61, s257_63, s257_64, s257_67, s257_70, s257_71, true_or, or_true, or_false, false_or, or_self, Int32.reduceLT, Int32.reduceLE, Nat.add_zero, Nat.zero_add, Nat.not_lt_zero, not_false_eq_true, not_true_eq_false, and_assoc, kl_q, kl_i, kl_r, kl_n, kl_0, kl_l, cs_0, cs_i, cs_r, cs_n, cs_l, aRf_s, aRf_n, gi_wl, gi_wr, gl_wi, gl_wl, gl_wr, gr_wi, gr_wl, gr_wr, sh_wi, sh_wl, sh_wr, gl_cp, gr_cp, sh_cp, gl_rw, gr_rw, sh_rw, gi_rl, gr_rl, sh_rl, Option.toList_some, Option.toList_none, List.nil_append, List.cons_append, List.append_nil, Option.some.injEq, Prod.mk.injEq, and_true, true_and, and_self, if_true, if_false, reduceCtorEq, Nat.reduceLeDiff, Nat.reduceLT, Nat.reduceAdd, Nat.reduceEqDiff, false_and, and_false, exists_const, exists_eq_left, exists_eq_left', exists_and_left, and_assoc, nltL, nltR, nleL, nleR, neqL, neqR, naL, naR, nmL, nmR, nI_ltI, nI_leI, nI_eq, nI_add, nI_mul, nI_clamp, n0l, n0r, nm1, nm1', nm1l, nm1r, nm1g, nsL, nI_m1, Nat.add_sub_cancel, vpn, vpL, nclL, le32, leLL, leLN, leNL, leNN, inA, nb0, nb1, gi_wi_n, gi_wi_e, gi_rw_n, gi_rw_e, aWi_rw, ifl, ifl_, ifle, ifle_, ifq, ifq_, ifnq, ifnq_, ifnl, ifnl_, ifnle, ifnle_, eq, h3]
            exact hk'
      · rintro lv h' ⟨z, rfl, rfl⟩
        rw [s257_32]
        simp (disch := omega) only [s257_0, s257_1, s257_2, s257_5, s257_8, s257_9, s257_10, s257_11, s257_14, s257_15, s257_18, s257_19, s257_20, s257_21, s257_22, s257_25, s257_26, s257_27, s257_28, s257_29, s257_30, s257_34, s257_36, s257_39, s257_40, s257_42, s257_45, s257_47, s257_48, s257_49, s257_52, s257_54, s257_55, s257_58, s257_60, s257_61, s257_63, s257_64, s257_67, s257_70, s257_71, true_or, or_true, or_false, false_or, or_self, Int32.reduceLT, Int32.reduceLE, Nat.add_zero, Nat.zero_add, Nat.not_lt_zero, not_false_eq_true, not_true_eq_false, and_assoc, kl_q, kl_i, kl_r, kl_n, kl_0, kl_l, cs_0, cs_i, cs_r, cs_n, cs_l, aRf_s, aRf_n, gi_wl, gi_wr, gl_wi, gl_wl, gl_wr, gr_wi, gr_wl, gr_wr, sh_wi, sh_wl, sh_wr, gl_cp, gr_cp, sh_cp, gl_rw, gr_rw, sh_rw, gi_rl, gr_rl, sh_rl, Option.toList_some, Option.toList_none, List.nil_append, List.cons_append, List.append_nil, Option.some.injEq, Prod.mk.injEq, and_true, true_and, and_self, if_true, if_false, reduceCtorEq, Nat.reduceLeDiff, Nat.reduceLT, Nat.reduceAdd, Nat.reduceEqDiff, false_and, and_false, exists_const, exists_eq_left, exists_eq_left', exists_and_left, and_assoc, nltL, nltR, nleL, nleR, neqL, neqR, naL, naR, nmL, nmR, nI_ltI, nI_leI, nI_eq, nI_add, nI_mul, nI_clamp, n0l, n0r, nm1, nm1', nm1l, nm1r, nm1g, nsL, nI_m1, Nat.add_sub_cancel, vpn, vpL, nclL, le32, leLL, leLN, leNL, leNN, inA, nb0, nb1, gi_wi_n, gi_wi_e, gi_rw_n, gi_rw_e, aWi_rw, ifl, ifl_, ifle, ifle_, ifq, ifq_, ifnq, ifnq_, ifnl, ifnl_, ifnle, ifnle_, Nat.le_refl]
        exact s3
end Q26
