-- deps: 49.who2
def flW (so : Nat → Bool) : Nat → List Nat
  | 0 => []
  | w + 1 => if so w = true then flW so w ++ [w] else flW so w
theorem flW_len (so : Nat → Bool) : ∀ n, (flW so n).length ≤ n
  | 0 => Nat.le_refl _
  | n + 1 => by
    have := flW_len so n
    rw [flW]
    split
    · rw [List.length_append, List.length_singleton]
      omega
    · omega
theorem flW_pre (so : Nat → Bool) (w : Nat) : ∀ r, ∃ t, flW so (w + r) = flW so w ++ t
  | 0 => ⟨[], by rw [List.append_nil]; rfl⟩
  | r + 1 => by
    obtain ⟨t, ht⟩ := flW_pre so w r
    rw [← Nat.add_assoc, flW, ht]
    split
    · exact ⟨t ++ [w + r], by rw [List.append_assoc]⟩
    · exact ⟨t, rfl⟩
theorem flW_lt (so : Nat → Bool) : ∀ n, ∀ w ∈ flW so n, w < n ∧ so w = true
  | 0, w, h => by cases h
  | n + 1, w, h => by
    rw [flW] at h
    split at h
    · next hs =>
      rw [List.mem_append, List.mem_singleton] at h
      rcases h with h | rfl
      · have := flW_lt so n w h
        exact ⟨by omega, this.2⟩
      · exact ⟨by omega, hs⟩
    · have := flW_lt so n w h
      exact ⟨by omega, this.2⟩
def kX (a k : Nat) : Bool := (a == 358 && k == 6) || a == 362 || (Nat.ble 364 a && Nat.ble a 370)
theorem kX_scr : ∀ a k, kX a k = true → Scr a k = true := by
  intro a k h
  unfold kX at h
  rw [Bool.or_eq_true, Bool.or_eq_true] at h
  rcases h with (h | h) | h
  · rw [Bool.and_eq_true, beq_iff_eq, beq_iff_eq] at h
    obtain ⟨rfl, rfl⟩ := h
    rfl
  · rw [beq_iff_eq] at h
    subst h
    rfl
  · rw [Bool.and_eq_true] at h
    have h1 := Nat.le_of_ble_eq_true h.1
    have h2 := Nat.le_of_ble_eq_true h.2
    have : a = 364 ∨ a = 365 ∨ a = 366 ∨ a = 367 ∨ a = 368 ∨ a = 369 ∨ a = 370 := by omega
    rcases this with rfl | rfl | rfl | rfl | rfl | rfl | rfl <;> rfl
theorem kX_row {j k : Nat} (h : j < 7) : kX (364 + j) k = true := by
  have : j = 0 ∨ j = 1 ∨ j = 2 ∨ j = 3 ∨ j = 4 ∨ j = 5 ∨ j = 6 := by omega
  rcases this with rfl | rfl | rfl | rfl | rfl | rfl | rfl <;> simp [kX] <;> rfl
theorem kX_lo {a k : Nat} (h : a < 358) : kX a k = false := by
  unfold kX
  simp only [Bool.or_eq_false_iff, beq_eq_false_iff_ne, Bool.and_eq_false_iff]
  refine ⟨⟨Or.inl (by omega), by omega⟩, Or.inl ?_⟩
  rw [Bool.eq_false_iff]
  intro q
  have := Nat.le_of_ble_eq_true q
  omega
def FitS (h : aM) (T : Nat → Nat → Int32) (fl : List Nat) : Prop := gi h 358 6 = nI fl.length ∧ ∀ j w, fl[j]? = some w → gi h 362 j = nI w ∧ ∀ i, i < 20 → gi h (364 + j) i = T w i
theorem FitS.mid {h h' : aM} {T : Nat → Nat → Int32} {fl : List Nat} (f : FitS h T fl) (m : Mid h h') (hl : fl.length ≤ 7) : FitS h' T fl := by
  refine ⟨by rw [m _ _ (by omega) (by omega), f.1], fun j w hj => ?_⟩
  have hj2 : j < fl.length := by
    rcases Nat.lt_or_ge j fl.length with q | q
    · exact q
    · rw [List.getElem?_eq_none q] at hj
      cases hj
  have := f.2 j w hj
  refine ⟨by rw [m _ _ (by omega) (by omega)]; exact this.1, fun i hi => ?_⟩
  rw [m _ _ (by omega) (by omega)]
  exact this.2 i hi
section Q23
variable {d : Nat} {g h : aM} {Q : Option Value → aM → Prop} {M F L W N D P n gg : Nat}
theorem Crs.kx {st vo dp : Nat → Int32} {mud : Int32} {h' : aM} (it : ITold g M F L W) (cr : Crs g h M F L st vo dp P mud) (f : Fr kX h h') : Crs g h' M F L st vo dp P mud := by
  refine ⟨cr.1.fr f kX_scr ⟨rfl, rfl, rfl, rfl⟩ (fun k => ⟨rfl, rfl, rfl, rfl⟩), fun m hm j hj => ?_⟩
  have := it.1
  rw [f.2.2.2 _ _ (kX_lo (by omega))]
  exact cr.2 m hm j hj
theorem c_keep {ws : List Wd} {fl : List Nat} {who : Nat} {T : Nat → Nat → Int32} (is : ISee g n) (s : Same g h) (gp : GoP h ws) (hl : ws.length ≤ 20) (f7 : fl.length < 7) (fs : FitS h T fl) (hT : ∀ i, i < 20 → T who i = wdI ws (nI i)) (hq : ∀ h', Fr kX h h' → FitS h' T (if fitN (T who) (paG g) (mnG g) (arG g) n = true then fl ++ [who] else fl) → Q none h') : AW (d + 1) 62 0 [some (.ref 358), some (.int (nI who)), some (.ref 342), none] [] h Q := by
  have ok := s.1
  obtain ⟨hn, i1, i2, i3⟩ := is
  have r1 : gi h 358 3 = nI n := by rw [s.2 _ _ rfl, i1]
  simp (disch := omega) only [s62_0, s62_1, s62_3, s62_3n, s62_4, s62_7, s62_10, s62_10n, s62_11, s62_11n, s62_12, s62_15, s62_16, s62_17, s62_20, s62_20n, s62_21, s62_24, s62_25, s62_26, s62_29, s62_30, s62_33, s62_34, s62_34n, s62_35, s62_38, s62_39, s62_40, s62_43, s62_44, s62_47, s62_50, s62_50n, s62_51, s62_54, s62_54n, s62_55, s62_58, s62_59, s62_62, s62_62n, s62_63, s62_66, s62_66n, s62_67, s62_70, s62_71, s62_72, s62_73, s62_75, s62_77, s62_80, s62_80n, s62_81, s62_84, s62_84n, s62_85, s62_88, s62_89, s62_90, s62_90n, s62_91, s62_92, s62_95, s62_96, s62_99, s62_102, s62_102n, s62_103, s62_103i, s62_104, s62_107, s62_108, s62_109, s62_112, true_or, or_true, or_false, false_or, or_self, Int32.reduceLT, Int32.reduceLE, Nat.add_zero, Nat.zero_add, Nat.not_lt_zero, not_false_eq_true, not_true_eq_false, and_assoc, kl_q, kl_i, kl_r, kl_n, kl_0, kl_l, cs_0, cs_i, cs_r, cs_n, cs_l, aRf_s, aRf_n, gi_wl, gi_wr, gl_wi, gl_wl, gl_wr, gr_wi, gr_wl, gr_wr, sh_wi, sh_wl, sh_wr, gl_cp, gr_cp, sh_cp, gl_rw, gr_rw, sh_rw, gi_rl, gr_rl, sh_rl, Option.toList_some, Option.toList_none, List.nil_append, List.cons_append, List.append_nil, Option.some.injEq, Prod.mk.injEq, and_true, true_and, and_self, if_true, if_false, reduceCtorEq, Nat.reduceLeDiff, Nat.reduceLT, Nat.reduceAdd, Nat.reduceEqDiff, false_and, and_false, exists_const, exists_eq_left, exists_eq_left', exists_and_left, and_assoc, nltL, nltR, nleL, nleR, neqL, neqR, naL, naR, nmL, nmR, nI_ltI, nI_leI, nI_eq, nI_add, nI_mul, nI_clamp, n0l, n0r, nm1, nm1', nm1l, nm1r, nm1g, nsL, nI_m1, Nat.add_sub_cancel, vpn, vpL, nclL, le32, leLL, leLN, leNL, leNN, inA, nb0, nb1, gi_wi_n, gi_wi_e, gi_rw_n, gi_rw_e, aWi_rw, ifl, ifl_, ifle, ifle_, ifq, ifq_, ifnq, ifnq_, ifnl, ifnl_, ifnle, ifnle_]
  refine aLoop n (fun k lv h' => lv = [some (.ref 358), some (.int (nI who)), some (.ref 342), some (.int (nI k))] ∧ h' = h ∧ fitN (T who) (paG g) (mnG g) (arG g) k = true) ?_ ?_ 0 _ _ (Nat.zero_le _) ⟨rfl, rfl, rfl⟩
  · rintro k lv h' hk ⟨rfl, rfl, hb⟩ hk2
    have e1 : ¬ n ≤ k := by omega
    obtain ⟨j1, j2, j3, p, hp, ep⟩ := i3 k hk
    have a0 : k < 10 := by omega
    have c1 : gi h' 359 k = nI p := by rw [s.2 _ _ rfl, j1, ep]
    have c2 : gi h' 360 k = mnG g k := by rw [s.2 _ _ rfl, j2]; rfl
    have c3 : gi h' 361 k = arG g k := by rw [s.2 _ _ rfl, j3]; rfl
    have pk : paG g k = p := by
      unfold paG cN
      rw [ep, nI_clamp (by omega)]
    have c4 := hT p hp
    have yes : decide (bI (decide (T who (paG g k) = mnG g k)) = arG g k) = true → AW (d + 1) 62 2 [some (.ref 358), some (.int (nI who)), some (.ref 342), some (.int (nI (k + 1)))] [] h' Q := by
      intro q
      refine hk2 _ _ ⟨rfl, rfl, ?_⟩
      rw [fitN, hb, q]
      rfl
    have no : decide (bI (decide (T who (paG g k) = mnG g k)) = arG g k) = false → Q none h' := by
      intro q
      have h0 : fitN (T who) (paG g) (mnG g) (arG g) (k + 1) = false := by
        rw [fitN, q]
        simp
      have := fitN_no h0 (n - (k + 1))
      rw [show k + 1 + (n - (k + 1)) = n by omega] at this
      rw [this] at hq
      exact hq _ (Fr.refl ok) fs
    rw [pk] at yes no
    rw [s62_2]
    simp (disch := omega) only [s62_0, s62_1, s62_3, s62_3n, s62_4, s62_7, s62_10, s62_10n, s62_11, s62_11n, s62_12, s62_15, s62_16, s62_17, s62_20, s62_20n, s62_21, s62_24, s62_25, s62_26, s62_29, s62_30, s62_33, s62_34, s62_34n, s62_35, s62_38, s62_39, s62_40, s62_43, s62_44, s62_47, s62_50, s62_50n, s62_51, s62_54, s62_54n, s62_55, s62_58, s62_59, s62_62, s62_62n, s62_63, s62_66, s62_66n, s62_67, s62_70, s62_71, s62_72, s62_73, s62_75, s62_77, s62_80, s62_80n, s62_81, s62_84, s62_84n, s62_85, s62_88, s62_89, s62_90, s62_90n, s62_91, s62_92, s62_95, s62_96, s62_99, s62_102, s62_102n, s62_103, s62_103i, s62_104, s62_107, s62_108, s62_109, s62_112, true_or, or_true, or_false, false_or, or_self, Int32.reduceLT, Int32.reduceLE, Nat.add_zero, Nat.zero_add, Nat.not_lt_zero, not_false_eq_true, not_true_eq_false, and_assoc, kl_q, kl_i, kl_r, kl_n, kl_0, kl_l, cs_0, cs_i, cs_r, cs_n, cs_l, aRf_s, aRf_n, gi_wl, gi_wr, gl_wi, gl_wl, gl_wr, gr_wi, gr_wl, gr_wr, sh_wi, sh_wl, sh_wr, gl_cp, gr_cp, sh_cp, gl_rw, gr_rw, sh_rw, gi_rl, gr_rl, sh_rl, Option.toList_some, Option.toList_none, List.nil_append, List.cons_append, List.append_nil, Option.some.injEq, Prod.mk.injEq, and_true, true_and, and_self, if_true, if_false, reduceCtorEq, Nat.reduceLeDiff, Nat.reduceLT, Nat.reduceAdd, Nat.reduceEqDiff, false_and, and_false, exists_const, exists_eq_left, exists_eq_left', exists_and_left, and_assoc, nltL, nltR, nleL, nleR, neqL, neqR, naL, naR, nmL, nmR, nI_ltI, nI_leI, nI_eq, nI_add, nI_mul, nI_clamp, n0l, n0r, nm1, nm1', nm1l, nm1r, nm1g, nsL, nI_m1, Nat.add_sub_cancel, vpn, vpL, nclL, le32, leLL, leLN, leNL, leNN, inA, nb0, nb1, gi_wi_n, gi_wi_e, gi_rw_n, gi_rw_e, aWi_rw, ifl, ifl_, ifle, ifle_, ifq, ifq_, ifnq, ifnq_, ifnl, ifnl_, ifnle, ifnle_, z358 ok, z342 ok, z359 ok, z360 ok, z361 ok, r358_0 ok, r358_1 ok, r358_2 ok, r1, e1, a0, c1, c2, c3, c_wordAt ok gp hl]
    rw [← c4]
    by_cases h1 : T who p = mnG g k
    · rw [if_neg (fun q => q h1)]
      rw [decide_eq_true h1] at yes no
      by_cases h2 : 1 = arG g k
      · rw [if_pos h2]
        exact yes (decide_eq_true h2)
      · rw [if_neg h2]
        exact no (decide_eq_false h2)
    · rw [if_pos h1]
      rw [decide_eq_false h1] at yes no
      by_cases h2 : 0 = arG g k
      · rw [if_pos h2]
        exact yes (decide_eq_true h2)
      · rw [if_neg h2]
        exact no (decide_eq_false h2)
  · rintro lv h' ⟨rfl, rfl, hb⟩
    rw [hb, if_pos rfl] at hq
    have e7 : ¬ 7 ≤ fl.length := by omega
    rw [s62_2]
    simp (disch := omega) only [s62_0, s62_1, s62_3, s62_3n, s62_4, s62_7, s62_10, s62_10n, s62_11, s62_11n, s62_12, s62_15, s62_16, s62_17, s62_20, s62_20n, s62_21, s62_24, s62_25, s62_26, s62_29, s62_30, s62_33, s62_34, s62_34n, s62_35, s62_38, s62_39, s62_40, s62_43, s62_44, s62_47, s62_50, s62_50n, s62_51, s62_54, s62_54n, s62_55, s62_58, s62_59, s62_62, s62_62n, s62_63, s62_66, s62_66n, s62_67, s62_70, s62_71, s62_72, s62_73, s62_75, s62_77, s62_80, s62_80n, s62_81, s62_84, s62_84n, s62_85, s62_88, s62_89, s62_90, s62_90n, s62_91, s62_92, s62_95, s62_96, s62_99, s62_102, s62_102n, s62_103, s62_103i, s62_104, s62_107, s62_108, s62_109, s62_112, true_or, or_true, or_false, false_or, or_self, Int32.reduceLT, Int32.reduceLE, Nat.add_zero, Nat.zero_add, Nat.not_lt_zero, not_false_eq_true, not_true_eq_false, and_assoc, kl_q, kl_i, kl_r, kl_n, kl_0, kl_l, cs_0, cs_i, cs_r, cs_n, cs_l, aRf_s, aRf_n, gi_wl, gi_wr, gl_wi, gl_wl, gl_wr, gr_wi, gr_wl, gr_wr, sh_wi, sh_wl, sh_wr, gl_cp, gr_cp, sh_cp, gl_rw, gr_rw, sh_rw, gi_rl, gr_rl, sh_rl, Option.toList_some, Option.toList_none, List.nil_append, List.cons_append, List.append_nil, Option.some.injEq, Prod.mk.injEq, and_true, true_and, and_self, if_true, if_false, reduceCtorEq, Nat.reduceLeDiff, Nat.reduceLT, Nat.reduceAdd, Nat.reduceEqDiff, false_and, and_false, exists_const, exists_eq_left, exists_eq_left', exists_and_left, and_assoc, nltL, nltR, nleL, nleR, neqL, neqR, naL, naR, nmL, nmR, nI_ltI, nI_leI, nI_eq, nI_add, nI_mul, nI_clamp, n0l, n0r, nm1, nm1', nm1l, nm1r, nm1g, nsL, nI_m1, Nat.add_sub_cancel, vpn, vpL, nclL, le32, leLL, leLN, leNL, leNN, inA, nb0, nb1, gi_wi_n, gi_wi_e, gi_rw_n, gi_rw_e, aWi_rw, ifl, ifl_, ifle, ifle_, ifq, ifq_, ifnq, ifnq_, ifnl, ifnl_, ifnle, ifnle_, z358 ok, z362 ok, r358_4 ok, r1, Nat.le_refl, fs.1, e7, f7]
    refine aLoop 20 (fun i lv h2 => lv = [some (.ref 358), some (.int (nI who)), some (.ref 342), some (.int (nI i))] ∧ Fr kX h' h2 ∧ (∀ a k, ¬ (a = 364 + fl.length) → gi h2 a k = gi (aWi h' 362 fl.length (nI who)) a k) ∧ ∀ j, j < i → gi h2 (364 + fl.length) j = T who j) ?_ ?_ 0 _ _ (Nat.zero_le _) ⟨rfl, (Fr.refl ok).wi rfl, fun _ _ _ => rfl, fun j hj => by omega⟩
    · rintro i lv h2 hi ⟨rfl, f2, q2, q3⟩ hk
      have ok := f2.1
      have e1 : ¬ 20 ≤ i := by omega
      have r6 : gi h2 358 6 = nI fl.length := by rw [q2 _ _ (by omega), gi_wi_n (by omega), fs.1]
      have gp2 : GoP h2 ws := by
        obtain ⟨u1, u2, u3, u4⟩ := gp
        refine ⟨?_, ?_, fun i w hw => ?_, fun m hm => ?_⟩
        · rw [f2.2.2.2 _ _ (kX_lo (by omega)), u1]
        · rw [f2.2.2.2 _ _ (kX_lo (by omega)), u2]
        · rw [f2.2.2.2 _ _ (kX_lo (by omega)), f2.2.2.2 _ _ (kX_lo (by omega))]
          exact u3 i w hw
        · rw [f2.2.2.2 _ _ (kX_lo (by omega))]
          exact u4 m hm
      rw [s62_74]
      simp (disch := omega) only [s62_0, s62_1, s62_3, s62_3n, s62_4, s62_7, s62_10, s62_10n, s62_11, s62_11n, s62_12, s62_15, s62_16, s62_17, s62_20, s62_20n, s62_21, s62_24, s62_25, s62_26, s62_29, s62_30, s62_33, s62_34, s62_34n, s62_35, s62_38, s62_39, s62_40, s62_43, s62_44, s62_47, s62_50, s62_50n, s62_51, s62_54, s62_54n, s62_55, s62_58, s62_59, s62_62, s62_62n, s62_63, s62_66, s62_66n, s62_67, s62_70, s62_71, s62_72, s62_73, s62_75, s62_77, s62_80, s62_80n, s62_81, s62_84, s62_84n, s62_85, s62_88, s62_89, s62_90, s62_90n, s62_91, s62_92, s62_95, s62_96, s62_99, s62_102, s62_102n, s62_103, s62_103i, s62_104, s62_107, s62_108, s62_109, s62_112, true_or, or_true, or_false, false_or, or_self, Int32.reduceLT, Int32.reduceLE, Nat.add_zero, Nat.zero_add, Nat.not_lt_zero, not_false_eq_true, not_true_eq_false, and_assoc, kl_q, kl_i, kl_r, kl_n, kl_0, kl_l, cs_0, cs_i, cs_r, cs_n, cs_l, aRf_s, aRf_n, gi_wl, gi_wr, gl_wi, gl_wl, gl_wr, gr_wi, gr_wl, gr_wr, sh_wi, sh_wl, sh_wr, gl_cp, gr_cp, sh_cp, gl_rw, gr_rw, sh_rw, gi_rl, gr_rl, sh_rl, Option.toList_some, Option.toList_none, List.nil_append, List.cons_append, List.append_nil, Option.some.injEq, Prod.mk.injEq, and_true, true_and, and_self, if_true, if_false, reduceCtorEq, Nat.reduceLeDiff, Nat.reduceLT, Nat.reduceAdd, Nat.reduceEqDiff, false_and, and_false, exists_const, exists_eq_left, exists_eq_left', exists_and_left, and_assoc, nltL, nltR, nleL, nleR, neqL, neqR, naL, naR, nmL, nmR, nI_ltI, nI_leI, nI_eq, nI_add, nI_mul, nI_clamp, n0l, n0r, nm1, nm1', nm1l, nm1r, nm1g, nsL, nI_m1, Nat.add_sub_cancel, vpn, vpL, nclL, le32, leLL, leLN, leNL, leNN, inA, nb0, nb1, gi_wi_n, gi_wi_e, gi_rw_n, gi_rw_e, aWi_rw, ifl, ifl_, ifle, ifle_, ifq, ifq_, ifnq, ifnq_, ifnl, ifnl_, ifnle, ifnle_, z358 ok, z342 ok, z363 ok, r358_5 ok, r6, e1, f7, hi, g363 ok f7, q364 ok f7, c_wordAt ok gp2 hl]
      rw [← hT i hi]
      refine hk _ _ ⟨rfl, f2.wi (kX_row f7), fun a k q => ?_, fun j hj => ?_⟩
      · rw [gi_wi_n (fun z => q z.1), q2 a k q]
      · by_cases hji : j = i
        · subst hji
          rw [gi_wi_e]
        · rw [gi_wi_n (by omega)]
          exact q3 j (by omega)
    · rintro lv h2 ⟨rfl, f2, q2, q3⟩
      have ok := f2.1
      have r6 : gi h2 358 6 = nI fl.length := by rw [q2 _ _ (by omega), gi_wi_n (by omega), fs.1]
      rw [s62_74]
      simp (disch := omega) only [s62_0, s62_1, s62_3, s62_3n, s62_4, s62_7, s62_10, s62_10n, s62_11, s62_11n, s62_12, s62_15, s62_16, s62_17, s62_20, s62_20n, s62_21, s62_24, s62_25, s62_26, s62_29, s62_30, s62_33, s62_34, s62_34n, s62_35, s62_38, s62_39, s62_40, s62_43, s62_44, s62_47, s62_50, s62_50n, s62_51, s62_54, s62_54n, s62_55, s62_58, s62_59, s62_62, s62_62n, s62_63, s62_66, s62_66n, s62_67, s62_70, s62_71, s62_72, s62_73, s62_75, s62_77, s62_80, s62_80n, s62_81, s62_84, s62_84n, s62_85, s62_88, s62_89, s62_90, s62_90n, s62_91, s62_92, s62_95, s62_96, s62_99, s62_102, s62_102n, s62_103, s62_103i, s62_104, s62_107, s62_108, s62_109, s62_112, true_or, or_true, or_false, false_or, or_self, Int32.reduceLT, Int32.reduceLE, Nat.add_zero, Nat.zero_add, Nat.not_lt_zero, not_false_eq_true, not_true_eq_false, and_assoc, kl_q, kl_i, kl_r, kl_n, kl_0, kl_l, cs_0, cs_i, cs_r, cs_n, cs_l, aRf_s, aRf_n, gi_wl, gi_wr, gl_wi, gl_wl, gl_wr, gr_wi, gr_wl, gr_wr, sh_wi, sh_wl, sh_wr, gl_cp, gr_cp, sh_cp, gl_rw, gr_rw, sh_rw, gi_rl, gr_rl, sh_rl, Option.toList_some, Option.toList_none, List.nil_append, List.cons_append, List.append_nil, Option.some.injEq, Prod.mk.injEq, and_true, true_and, and_self, if_true, if_false, reduceCtorEq, Nat.reduceLeDiff, Nat.reduceLT, Nat.reduceAdd, Nat.reduceEqDiff, false_and, and_false, exists_const, exists_eq_left, exists_eq_left', exists_and_left, and_assoc, nltL, nltR, nleL, nleR, neqL, neqR, naL, naR, nmL, nmR, nI_ltI, nI_leI, nI_eq, nI_add, nI_mul, nI_clamp, n0l, n0r, nm1, nm1', nm1l, nm1r, nm1g, nsL, nI_m1, Nat.add_sub_cancel, vpn, vpL, nclL, le32, leLL, leLN, leNL, leNN, inA, nb0, nb1, gi_wi_n, gi_wi_e, gi_rw_n, gi_rw_e, aWi_rw, ifl, ifl_, ifle, ifle_, ifq, ifq_, ifnq, ifnq_, ifnl, ifnl_, ifnle, ifnle_, z358 ok, Nat.le_refl, r6]
      refine hq _ (f2.wi rfl) ⟨?_, fun j w hj => ?_⟩
      · rw [gi_wi_e, List.length_append]
        rfl
      · by_cases hjl : j = fl.length
        · subst hjl
          rw [List.getElem?_append_right (Nat.le_refl _), Nat.sub_self] at hj
          have hw : who = w := by simpa using hj
          subst hw
          refine ⟨?_, fun i hi => ?_⟩
          · rw [gi_wi_n (by omega), q2 _ _ (by omega), gi_wi_e]
          · rw [gi_wi_n (by omega)]
            exact q3 i hi
        · have hj2 : j < fl.length := by
            rcases Nat.lt_or_ge j fl.length with q | q
            · exact q
            · rw [List.getElem?_append_right q] at hj
              rw [List.getElem?_eq_none (by rw [List.length_singleton]; omega)] at hj
              cases hj
          rw [List.getElem?_append_left hj2] at hj
          have := fs.2 j w hj
          refine ⟨?_, fun i hi => ?_⟩
          · rw [gi_wi_n (by omega), q2 _ _ (by omega), gi_wi_n (by omega)]
            exact this.1
          · rw [gi_wi_n (by omega), q2 _ _ (by omega), gi_wi_n (by omega)]
            exact this.2 i hi
theorem SO_lo {T : Nat → Nat → Int32} {w : Nat} (h : w < M) : SO g M n T w = fitN (T w) (paG g) (mnG g) (arG g) n := by
  unfold SO whoB
  simp [h]
theorem SO_9 {T : Nat → Nat → Int32} : SO g M n T 9 = fitN (T 9) (paG g) (mnG g) (arG g) n := by
  unfold SO whoB
  simp
theorem fl_9 {T : Nat → Nat → Int32} : ∀ r, M + r ≤ 9 → flW (SO g M n T) (M + r) = flW (SO g M n T) M
  | 0, _ => rfl
  | r + 1, h => by
    rw [← Nat.add_assoc, flW, if_neg, fl_9 r (by omega)]
    unfold SO whoB
    have h1 : ¬ M + r < M := by omega
    have h2 : ¬ M + r = 9 := by omega
    simp [h1, h2]
theorem c_weigh (c : Cx0 g M F L W N P) (is : ISee g n) (s : Same g h) (hg : gg ≤ 9) (hq : ∀ h', Same g h' → FitS h' (tlW g M F L W P gg) (flW (SO g M n (tlW g M F L W P gg)) 10) → Q none h') : AW (d + 7) 141 0 [some (.ref 32), some (.int (nI gg)), none] [] h Q := by
  have it := c.2.1
  have hM : M ≤ 6 := it.1
  have hM' : M ≤ 10 := by omega
  have hF : F ≤ 5 := it.2.1
  have hF' : F ≤ 10 := by omega
  have hL : L ≤ 30 := it.2.2.1
  have hW : W ≤ 20 := it.2.2.2.1
  have ok := s.1
  obtain ⟨fi1, fi2, fi3, fi4, fi5, fi6⟩ := c.2.2.1
  have P1 := c.2.2.2.2.1
  have P5 := c.2.2.2.2.2.1
  have hP := c.2.2.2.2.2.2
  simp (disch := omega) only [s141_0, s141_1, s141_4, s141_5, s141_8, s141_9, s141_12, s141_13, s141_16, s141_19, s141_20, s141_23, s141_24, s141_25, s141_28, s141_31, s141_34, s141_35, s141_38, s141_41, s141_42, s141_44, s141_45, s141_48, s141_51, s141_54, s141_55, s141_58, s141_59, s141_60, s141_63, s141_64, s141_67, s141_70, s141_71, s141_72, s141_73, s141_74, s141_77, s141_80, s141_81, s141_84, s141_85, s141_88, s141_91, s141_92, s141_95, s141_96, s141_97, s141_100, s141_103, s141_104, s141_107, s141_108, s141_109, s141_112, s141_115, s141_116, s141_117, s141_120, s141_123, s141_126, s141_127, s141_130, s141_131, s141_134, s141_137, s141_138, s141_141, s141_143, s141_144, s141_147, s141_150, true_or, or_true, or_false, false_or, or_self, Int32.reduceLT, Int32.reduceLE, Nat.add_zero, Nat.zero_add, Nat.not_lt_zero, not_false_eq_true, not_true_eq_false, and_assoc, kl_q, kl_i, kl_r, kl_n, kl_0, kl_l, cs_0, cs_i, cs_r, cs_n, cs_l, aRf_s, aRf_n, gi_wl, gi_wr, gl_wi, gl_wl, gl_wr, gr_wi, gr_wl, gr_wr, sh_wi, sh_wl, sh_wr, gl_cp, gr_cp, sh_cp, gl_rw, gr_rw, sh_rw, gi_rl, gr_rl, sh_rl, Option.toList_some, Option.toList_none, List.nil_append, List.cons_append, List.append_nil, Option.some.injEq, Prod.mk.injEq, and_true, true_and, and_self, if_true, if_false, reduceCtorEq, Nat.reduceLeDiff, Nat.reduceLT, Nat.reduceAdd, Nat.reduceEqDiff, false_and, and_false, exists_const, exists_eq_left, exists_eq_left', exists_and_left, and_assoc, nltL, nltR, nleL, nleR, neqL, neqR, naL, naR, nmL, nmR, nI_ltI, nI_leI, nI_eq, nI_add, nI_mul, nI_clamp, n0l, n0r, nm1, nm1', nm1l, nm1r, nm1g, nsL, nI_m1, Nat.add_sub_cancel, vpn, vpL, nclL, le32, leLL, leLN, leNL, leNN, inA, nb0, nb1, gi_wi_n, gi_wi_e, gi_rw_n, gi_rw_e, aWi_rw, ifl, ifl_, ifle, ifle_, ifq, ifq_, ifnq, ifnq_, ifnl, ifnl_, ifnle, ifnle_, z32 ok, r32_11 ok, r32_3 ok, r32_4 ok]
  refine c_law c.2.2.2.1 s ?_
  simp (disch := omega) only [s141_0, s141_1, s141_4, s141_5, s141_8, s141_9, s141_12, s141_13, s141_16, s141_19, s141_20, s141_23, s141_24, s141_25, s141_28, s141_31, s141_34, s141_35, s141_38, s141_41, s141_42, s141_44, s141_45, s141_48, s141_51, s141_54, s141_55, s141_58, s141_59, s141_60, s141_63, s141_64, s141_67, s141_70, s141_71, s141_72, s141_73, s141_74, s141_77, s141_80, s141_81, s141_84, s141_85, s141_88, s141_91, s141_92, s141_95, s141_96, s141_97, s141_100, s141_103, s141_104, s141_107, s141_108, s141_109, s141_112, s141_115, s141_116, s141_117, s141_120, s141_123, s141_126, s141_127, s141_130, s141_131, s141_134, s141_137, s141_138, s141_141, s141_143, s141_144, s141_147, s141_150, true_or, or_true, or_false, false_or, or_self, Int32.reduceLT, Int32.reduceLE, Nat.add_zero, Nat.zero_add, Nat.not_lt_zero, not_false_eq_true, not_true_eq_false, and_assoc, kl_q, kl_i, kl_r, kl_n, kl_0, kl_l, cs_0, cs_i, cs_r, cs_n, cs_l, aRf_s, aRf_n, gi_wl, gi_wr, gl_wi, gl_wl, gl_wr, gr_wi, gr_wl, gr_wr, sh_wi, sh_wl, sh_wr, gl_cp, gr_cp, sh_cp, gl_rw, gr_rw, sh_rw, gi_rl, gr_rl, sh_rl, Option.toList_some, Option.toList_none, List.nil_append, List.cons_append, List.append_nil, Option.some.injEq, Prod.mk.injEq, and_true, true_and, and_self, if_true, if_false, reduceCtorEq, Nat.reduceLeDiff, Nat.reduceLT, Nat.reduceAdd, Nat.reduceEqDiff, false_and, and_false, exists_const, exists_eq_left, exists_eq_left', exists_and_left, and_assoc, nltL, nltR, nleL, nleR, neqL, neqR, naL, naR, nmL, nmR, nI_ltI, nI_leI, nI_eq, nI_add, nI_mul, nI_clamp, n0l, n0r, nm1, nm1', nm1l, nm1r, nm1g, nsL, nI_m1, Nat.add_sub_cancel, vpn, vpL, nclL, le32, leLL, leLN, leNL, leNN, inA, nb0, nb1, gi_wi_n, gi_wi_e, gi_rw_n, gi_rw_e, aWi_rw, ifl, ifl_, ifle, ifle_, ifq, ifq_, ifnq, ifnq_, ifnl, ifnl_, ifnle, ifnle_, z342 ok]
  refine c_setOut73 (st := st0 g) (vo := vo0 g) (dp := dp0 g) (P := P) (mud := mud0 g) it s (fun k hk => ⟨(fi1 k hk).1, (fi1 k hk).2.1⟩) (fun f hf => fi2 f hf) (by rw [fi3, hP]) fi4 (fun h1 co => ?_)
  have ok := co.1.1
  obtain ⟨r1, r2, r3, r4, r5, r6, r7, r8⟩ := rd58 it co.1
  simp (disch := omega) only [s141_0, s141_1, s141_4, s141_5, s141_8, s141_9, s141_12, s141_13, s141_16, s141_19, s141_20, s141_23, s141_24, s141_25, s141_28, s141_31, s141_34, s141_35, s141_38, s141_41, s141_42, s141_44, s141_45, s141_48, s141_51, s141_54, s141_55, s141_58, s141_59, s141_60, s141_63, s141_64, s141_67, s141_70, s141_71, s141_72, s141_73, s141_74, s141_77, s141_80, s141_81, s141_84, s141_85, s141_88, s141_91, s141_92, s141_95, s141_96, s141_97, s141_100, s141_103, s141_104, s141_107, s141_108, s141_109, s141_112, s141_115, s141_116, s141_117, s141_120, s141_123, s141_126, s141_127, s141_130, s141_131, s141_134, s141_137, s141_138, s141_141, s141_143, s141_144, s141_147, s141_150, true_or, or_true, or_false, false_or, or_self, Int32.reduceLT, Int32.reduceLE, Nat.add_zero, Nat.zero_add, Nat.not_lt_zero, not_false_eq_true, not_true_eq_false, and_assoc, kl_q, kl_i, kl_r, kl_n, kl_0, kl_l, cs_0, cs_i, cs_r, cs_n, cs_l, aRf_s, aRf_n, gi_wl, gi_wr, gl_wi, gl_wl, gl_wr, gr_wi, gr_wl, gr_wr, sh_wi, sh_wl, sh_wr, gl_cp, gr_cp, sh_cp, gl_rw, gr_rw, sh_rw, gi_rl, gr_rl, sh_rl, Option.toList_some, Option.toList_none, List.nil_append, List.cons_append, List.append_nil, Option.some.injEq, Prod.mk.injEq, and_true, true_and, and_self, if_true, if_false, reduceCtorEq, Nat.reduceLeDiff, Nat.reduceLT, Nat.reduceAdd, Nat.reduceEqDiff, false_and, and_false, exists_const, exists_eq_left, exists_eq_left', exists_and_left, and_assoc, nltL, nltR, nleL, nleR, neqL, neqR, naL, naR, nmL, nmR, nI_ltI, nI_leI, nI_eq, nI_add, nI_mul, nI_clamp, n0l, n0r, nm1, nm1', nm1l, nm1r, nm1g, nsL, nI_m1, Nat.add_sub_cancel, vpn, vpL, nclL, le32, leLL, leLN, leNL, leNN, inA, nb0, nb1, gi_wi_n, gi_wi_e, gi_rw_n, gi_rw_e, aWi_rw, ifl, ifl_, ifle, ifle_, ifq, ifq_, ifnq, ifnq_, ifnl, ifnl_, ifnle, ifnle_, z32 ok, z58 ok, z342 ok, r32_3 ok, r32_11 ok, r1]
  refine c_hear (m0 := 0) it c.2.2.2.1 c.pb0 co (Nat.zero_le _) (Nat.le_refl _) (fun h3 f1 f2 f3 => ?_)
  have cr3 : Crs g h3 M F L (st0 g) (vo0 g) (dp0 g) P (mud0 g) := ⟨co.fr f1 hearX_scr ⟨rfl, rfl, rfl, rfl⟩ (fun k => ⟨rfl, rfl, rfl, rfl⟩), fun m hm j hj => f2 m (Nat.zero_le _) hm j hj⟩
  have ok := cr3.1.1.1
  simp (disch := omega) only [s141_0, s141_1, s141_4, s141_5, s141_8, s141_9, s141_12, s141_13, s141_16, s141_19, s141_20, s141_23, s141_24, s141_25, s141_28, s141_31, s141_34, s141_35, s141_38, s141_41, s141_42, s141_44, s141_45, s141_48, s141_51, s141_54, s141_55, s141_58, s141_59, s141_60, s141_63, s141_64, s141_67, s141_70, s141_71, s141_72, s141_73, s141_74, s141_77, s141_80, s141_81, s141_84, s141_85, s141_88, s141_91, s141_92, s141_95, s141_96, s141_97, s141_100, s141_103, s141_104, s141_107, s141_108, s141_109, s141_112, s141_115, s141_116, s141_117, s141_120, s141_123, s141_126, s141_127, s141_130, s141_131, s141_134, s141_137, s141_138, s141_141, s141_143, s141_144, s141_147, s141_150, s61_0, s61_1, s61_2, s61_5, true_or, or_true, or_false, false_or, or_self, Int32.reduceLT, Int32.reduceLE, Nat.add_zero, Nat.zero_add, Nat.not_lt_zero, not_false_eq_true, not_true_eq_false, and_assoc, kl_q, kl_i, kl_r, kl_n, kl_0, kl_l, cs_0, cs_i, cs_r, cs_n, cs_l, aRf_s, aRf_n, gi_wl, gi_wr, gl_wi, gl_wl, gl_wr, gr_wi, gr_wl, gr_wr, sh_wi, sh_wl, sh_wr, gl_cp, gr_cp, sh_cp, gl_rw, gr_rw, sh_rw, gi_rl, gr_rl, sh_rl, Option.toList_some, Option.toList_none, List.nil_append, List.cons_append, List.append_nil, Option.some.injEq, Prod.mk.injEq, and_true, true_and, and_self, if_true, if_false, reduceCtorEq, Nat.reduceLeDiff, Nat.reduceLT, Nat.reduceAdd, Nat.reduceEqDiff, false_and, and_false, exists_const, exists_eq_left, exists_eq_left', exists_and_left, and_assoc, nltL, nltR, nleL, nleR, neqL, neqR, naL, naR, nmL, nmR, nI_ltI, nI_leI, nI_eq, nI_add, nI_mul, nI_clamp, n0l, n0r, nm1, nm1', nm1l, nm1r, nm1g, nsL, nI_m1, Nat.add_sub_cancel, vpn, vpL, nclL, le32, leLL, leLN, leNL, leNN, inA, nb0, nb1, gi_wi_n, gi_wi_e, gi_rw_n, gi_rw_e, aWi_rw, ifl, ifl_, ifle, ifle_, ifq, ifq_, ifnq, ifnq_, ifnl, ifnl_, ifnle, ifnle_, z32 ok, z358 ok, r32_12 ok]
  refine aLoop M (fun m lv h' => lv = [some (.ref 32), some (.int (nI gg)), some (.int (nI m))] ∧ Crs g h' M F L (st0 g) (vo0 g) (dp0 g) P (mud0 g) ∧ FitS h' (tlW g M F L W P gg) (flW (SO g M n (tlW g M F L W P gg)) m)) ?_ ?_ 0 _ _ (Nat.zero_le _) ⟨rfl, cr3.kx it ((Fr.refl ok).wi rfl), gi_wi_e, fun j w hj => by cases hj⟩
  · rintro m lv h' hm ⟨rfl, cr, fs⟩ hk
    have ok := cr.1.1.1
    obtain ⟨r1, r2, r3, r4, r5, r6, r7, r8⟩ := rd58 it cr.1.1
    have e1 : ¬ M ≤ m := by omega
    have m6 : m < 6 := by omega
    have e2 : gi h' 74 m = st0 g m := by rw [cr.1.1.2 _ _ rfl]; exact (fi1 m hm).1
    have fl := flW_len (SO g M n (tlW g M F L W P gg)) m
    have s0 : sm (st0 g m) := (fi1 m hm).2.2.1
    rw [s141_43]
    simp (disch := omega) only [s141_0, s141_1, s141_4, s141_5, s141_8, s141_9, s141_12, s141_13, s141_16, s141_19, s141_20, s141_23, s141_24, s141_25, s141_28, s141_31, s141_34, s141_35, s141_38, s141_41, s141_42, s141_44, s141_45, s141_48, s141_51, s141_54, s141_55, s141_58, s141_59, s141_60, s141_63, s141_64, s141_67, s141_70, s141_71, s141_72, s141_73, s141_74, s141_77, s141_80, s141_81, s141_84, s141_85, s141_88, s141_91, s141_92, s141_95, s141_96, s141_97, s141_100, s141_103, s141_104, s141_107, s141_108, s141_109, s141_112, s141_115, s141_116, s141_117, s141_120, s141_123, s141_126, s141_127, s141_130, s141_131, s141_134, s141_137, s141_138, s141_141, s141_143, s141_144, s141_147, s141_150, true_or, or_true, or_false, false_or, or_self, Int32.reduceLT, Int32.reduceLE, Nat.add_zero, Nat.zero_add, Nat.not_lt_zero, not_false_eq_true, not_true_eq_false, and_assoc, kl_q, kl_i, kl_r, kl_n, kl_0, kl_l, cs_0, cs_i, cs_r, cs_n, cs_l, aRf_s, aRf_n, gi_wl, gi_wr, gl_wi, gl_wl, gl_wr, gr_wi, gr_wl, gr_wr, sh_wi, sh_wl, sh_wr, gl_cp, gr_cp, sh_cp, gl_rw, gr_rw, sh_rw, gi_rl, gr_rl, sh_rl, Option.toList_some, Option.toList_none, List.nil_append, List.cons_append, List.append_nil, Option.some.injEq, Prod.mk.injEq, and_true, true_and, and_self, if_true, if_false, reduceCtorEq, Nat.reduceLeDiff, Nat.reduceLT, Nat.reduceAdd, Nat.reduceEqDiff, false_and, and_false, exists_const, exists_eq_left, exists_eq_left', exists_and_left, and_assoc, nltL, nltR, nleL, nleR, neqL, neqR, naL, naR, nmL, nmR, nI_ltI, nI_leI, nI_eq, nI_add, nI_mul, nI_clamp, n0l, n0r, nm1, nm1', nm1l, nm1r, nm1g, nsL, nI_m1, Nat.add_sub_cancel, vpn, vpL, nclL, le32, leLL, leLN, leNL, leNN, inA, nb0, nb1, gi_wi_n, gi_wi_e, gi_rw_n, gi_rw_e, aWi_rw, ifl, ifl_, ifle, ifle_, ifq, ifq_, ifnq, ifnq_, ifnl, ifnl_, ifnle, ifnle_, z32 ok, z58 ok, z73 ok, z74 ok, z342 ok, r32_3 ok, r32_4 ok, r32_11 ok, r73_0 ok, r1, e1, c_len ok r5, m6, e2, sp_min]
    refine c_placeF (x := sgW g L gg m) it c.2.2.2.1 c.pb0 cr hm (sm_sg hL hg s0) (fun h5 cr5 m5 => ?_)
    have ok := cr5.1.1.1
    obtain ⟨r1, r2, r3, r4, r5, r6, r7, r8⟩ := rd58 it cr5.1.1
    simp (disch := omega) only [s141_0, s141_1, s141_4, s141_5, s141_8, s141_9, s141_12, s141_13, s141_16, s141_19, s141_20, s141_23, s141_24, s141_25, s141_28, s141_31, s141_34, s141_35, s141_38, s141_41, s141_42, s141_44, s141_45, s141_48, s141_51, s141_54, s141_55, s141_58, s141_59, s141_60, s141_63, s141_64, s141_67, s141_70, s141_71, s141_72, s141_73, s141_74, s141_77, s141_80, s141_81, s141_84, s141_85, s141_88, s141_91, s141_92, s141_95, s141_96, s141_97, s141_100, s141_103, s141_104, s141_107, s141_108, s141_109, s141_112, s141_115, s141_116, s141_117, s141_120, s141_123, s141_126, s141_127, s141_130, s141_131, s141_134, s141_137, s141_138, s141_141, s141_143, s141_144, s141_147, s141_150, true_or, or_true, or_false, false_or, or_self, Int32.reduceLT, Int32.reduceLE, Nat.add_zero, Nat.zero_add, Nat.not_lt_zero, not_false_eq_true, not_true_eq_false, and_assoc, kl_q, kl_i, kl_r, kl_n, kl_0, kl_l, cs_0, cs_i, cs_r, cs_n, cs_l, aRf_s, aRf_n, gi_wl, gi_wr, gl_wi, gl_wl, gl_wr, gr_wi, gr_wl, gr_wr, sh_wi, sh_wl, sh_wr, gl_cp, gr_cp, sh_cp, gl_rw, gr_rw, sh_rw, gi_rl, gr_rl, sh_rl, Option.toList_some, Option.toList_none, List.nil_append, List.cons_append, List.append_nil, Option.some.injEq, Prod.mk.injEq, and_true, true_and, and_self, if_true, if_false, reduceCtorEq, Nat.reduceLeDiff, Nat.reduceLT, Nat.reduceAdd, Nat.reduceEqDiff, false_and, and_false, exists_const, exists_eq_left, exists_eq_left', exists_and_left, and_assoc, nltL, nltR, nleL, nleR, neqL, neqR, naL, naR, nmL, nmR, nI_ltI, nI_leI, nI_eq, nI_add, nI_mul, nI_clamp, n0l, n0r, nm1, nm1', nm1l, nm1r, nm1g, nsL, nI_m1, Nat.add_sub_cancel, vpn, vpL, nclL, le32, leLL, leLN, leNL, leNN, inA, nb0, nb1, gi_wi_n, gi_wi_e, gi_rw_n, gi_rw_e, aWi_rw, ifl, ifl_, ifle, ifle_, ifq, ifq_, ifnq, ifnq_, ifnl, ifnl_, ifnle, ifnle_, z32 ok, z342 ok, r32_11 ok, c_room ok r7]
    refine c_goF it P1 P5 hW cr5 (fun h6 cr6 m6' g6 => ?_)
    have ok := cr6.1.1.1
    have ew : rdA (hdG g F (up (st0 g) m (sgW g L gg m)) (vo0 g) (dp0 g) P (mud0 g)) M L P (mud0 g) W = twW g M F L W P gg m := by
      unfold twW stW
      rw [if_neg (by omega)]
    rw [ew] at g6
    simp (disch := omega) only [s141_0, s141_1, s141_4, s141_5, s141_8, s141_9, s141_12, s141_13, s141_16, s141_19, s141_20, s141_23, s141_24, s141_25, s141_28, s141_31, s141_34, s141_35, s141_38, s141_41, s141_42, s141_44, s141_45, s141_48, s141_51, s141_54, s141_55, s141_58, s141_59, s141_60, s141_63, s141_64, s141_67, s141_70, s141_71, s141_72, s141_73, s141_74, s141_77, s141_80, s141_81, s141_84, s141_85, s141_88, s141_91, s141_92, s141_95, s141_96, s141_97, s141_100, s141_103, s141_104, s141_107, s141_108, s141_109, s141_112, s141_115, s141_116, s141_117, s141_120, s141_123, s141_126, s141_127, s141_130, s141_131, s141_134, s141_137, s141_138, s141_141, s141_143, s141_144, s141_147, s141_150, true_or, or_true, or_false, false_or, or_self, Int32.reduceLT, Int32.reduceLE, Nat.add_zero, Nat.zero_add, Nat.not_lt_zero, not_false_eq_true, not_true_eq_false, and_assoc, kl_q, kl_i, kl_r, kl_n, kl_0, kl_l, cs_0, cs_i, cs_r, cs_n, cs_l, aRf_s, aRf_n, gi_wl, gi_wr, gl_wi, gl_wl, gl_wr, gr_wi, gr_wl, gr_wr, sh_wi, sh_wl, sh_wr, gl_cp, gr_cp, sh_cp, gl_rw, gr_rw, sh_rw, gi_rl, gr_rl, sh_rl, Option.toList_some, Option.toList_none, List.nil_append, List.cons_append, List.append_nil, Option.some.injEq, Prod.mk.injEq, and_true, true_and, and_self, if_true, if_false, reduceCtorEq, Nat.reduceLeDiff, Nat.reduceLT, Nat.reduceAdd, Nat.reduceEqDiff, false_and, and_false, exists_const, exists_eq_left, exists_eq_left', exists_and_left, and_assoc, nltL, nltR, nleL, nleR, neqL, neqR, naL, naR, nmL, nmR, nI_ltI, nI_leI, nI_eq, nI_add, nI_mul, nI_clamp, n0l, n0r, nm1, nm1', nm1l, nm1r, nm1g, nsL, nI_m1, Nat.add_sub_cancel, vpn, vpL, nclL, le32, leLL, leLN, leNL, leNN, inA, nb0, nb1, gi_wi_n, gi_wi_e, gi_rw_n, gi_rw_e, aWi_rw, ifl, ifl_, ifle, ifle_, ifq, ifq_, ifnq, ifnq_, ifnl, ifnl_, ifnle, ifnle_, z32 ok, z358 ok, r32_11 ok, r32_12 ok]
    refine c_keep (T := tlW g M F L W P gg) is cr6.1.1 g6 (twW_len hW) (show (flW (SO g M n (tlW g M F L W P gg)) m).length < 7 by omega) ((fs.mid m5 (by omega)).mid m6' (by omega)) (fun i hi => rfl) (fun h7 f7 fs7 => ?_)
    have cr7 := cr6.kx it f7
    have ok := cr7.1.1.1
    have e2 : gi h7 74 m = st0 g m := by rw [cr7.1.1.2 _ _ rfl]; exact (fi1 m hm).1
    simp (disch := omega) only [s141_0, s141_1, s141_4, s141_5, s141_8, s141_9, s141_12, s141_13, s141_16, s141_19, s141_20, s141_23, s141_24, s141_25, s141_28, s141_31, s141_34, s141_35, s141_38, s141_41, s141_42, s141_44, s141_45, s141_48, s141_51, s141_54, s141_55, s141_58, s141_59, s141_60, s141_63, s141_64, s141_67, s141_70, s141_71, s141_72, s141_73, s141_74, s141_77, s141_80, s141_81, s141_84, s141_85, s141_88, s141_91, s141_92, s141_95, s141_96, s141_97, s141_100, s141_103, s141_104, s141_107, s141_108, s141_109, s141_112, s141_115, s141_116, s141_117, s141_120, s141_123, s141_126, s141_127, s141_130, s141_131, s141_134, s141_137, s141_138, s141_141, s141_143, s141_144, s141_147, s141_150, true_or, or_true, or_false, false_or, or_self, Int32.reduceLT, Int32.reduceLE, Nat.add_zero, Nat.zero_add, Nat.not_lt_zero, not_false_eq_true, not_true_eq_false, and_assoc, kl_q, kl_i, kl_r, kl_n, kl_0, kl_l, cs_0, cs_i, cs_r, cs_n, cs_l, aRf_s, aRf_n, gi_wl, gi_wr, gl_wi, gl_wl, gl_wr, gr_wi, gr_wl, gr_wr, sh_wi, sh_wl, sh_wr, gl_cp, gr_cp, sh_cp, gl_rw, gr_rw, sh_rw, gi_rl, gr_rl, sh_rl, Option.toList_some, Option.toList_none, List.nil_append, List.cons_append, List.append_nil, Option.some.injEq, Prod.mk.injEq, and_true, true_and, and_self, if_true, if_false, reduceCtorEq, Nat.reduceLeDiff, Nat.reduceLT, Nat.reduceAdd, Nat.reduceEqDiff, false_and, and_false, exists_const, exists_eq_left, exists_eq_left', exists_and_left, and_assoc, nltL, nltR, nleL, nleR, neqL, neqR, naL, naR, nmL, nmR, nI_ltI, nI_leI, nI_eq, nI_add, nI_mul, nI_clamp, n0l, n0r, nm1, nm1', nm1l, nm1r, nm1g, nsL, nI_m1, Nat.add_sub_cancel, vpn, vpL, nclL, le32, leLL, leLN, leNL, leNN, inA, nb0, nb1, gi_wi_n, gi_wi_e, gi_rw_n, gi_rw_e, aWi_rw, ifl, ifl_, ifle, ifle_, ifq, ifq_, ifnq, ifnq_, ifnl, ifnl_, ifnle, ifnle_, z32 ok, z73 ok, z74 ok, z342 ok, r32_4 ok, r32_11 ok, r73_0 ok, m6, e2]
    refine c_placeF (x := st0 g m) it c.2.2.2.1 (c.pb0.st (sm_sg hL hg s0)) cr7 hm s0 (fun h8 cr8 m8 => ?_)
    rw [up_up, up_self] at cr8
    simp (disch := omega) only [s141_0, s141_1, s141_4, s141_5, s141_8, s141_9, s141_12, s141_13, s141_16, s141_19, s141_20, s141_23, s141_24, s141_25, s141_28, s141_31, s141_34, s141_35, s141_38, s141_41, s141_42, s141_44, s141_45, s141_48, s141_51, s141_54, s141_55, s141_58, s141_59, s141_60, s141_63, s141_64, s141_67, s141_70, s141_71, s141_72, s141_73, s141_74, s141_77, s141_80, s141_81, s141_84, s141_85, s141_88, s141_91, s141_92, s141_95, s141_96, s141_97, s141_100, s141_103, s141_104, s141_107, s141_108, s141_109, s141_112, s141_115, s141_116, s141_117, s141_120, s141_123, s141_126, s141_127, s141_130, s141_131, s141_134, s141_137, s141_138, s141_141, s141_143, s141_144, s141_147, s141_150, true_or, or_true, or_false, false_or, or_self, Int32.reduceLT, Int32.reduceLE, Nat.add_zero, Nat.zero_add, Nat.not_lt_zero, not_false_eq_true, not_true_eq_false, and_assoc, kl_q, kl_i, kl_r, kl_n, kl_0, kl_l, cs_0, cs_i, cs_r, cs_n, cs_l, aRf_s, aRf_n, gi_wl, gi_wr, gl_wi, gl_wl, gl_wr, gr_wi, gr_wl, gr_wr, sh_wi, sh_wl, sh_wr, gl_cp, gr_cp, sh_cp, gl_rw, gr_rw, sh_rw, gi_rl, gr_rl, sh_rl, Option.toList_some, Option.toList_none, List.nil_append, List.cons_append, List.append_nil, Option.some.injEq, Prod.mk.injEq, and_true, true_and, and_self, if_true, if_false, reduceCtorEq, Nat.reduceLeDiff, Nat.reduceLT, Nat.reduceAdd, Nat.reduceEqDiff, false_and, and_false, exists_const, exists_eq_left, exists_eq_left', exists_and_left, and_assoc, nltL, nltR, nleL, nleR, neqL, neqR, naL, naR, nmL, nmR, nI_ltI, nI_leI, nI_eq, nI_add, nI_mul, nI_clamp, n0l, n0r, nm1, nm1', nm1l, nm1r, nm1g, nsL, nI_m1, Nat.add_sub_cancel, vpn, vpL, nclL, le32, leLL, leLN, leNL, leNN, inA, nb0, nb1, gi_wi_n, gi_wi_e, gi_rw_n, gi_rw_e, aWi_rw, ifl, ifl_, ifle, ifle_, ifq, ifq_, ifnq, ifnq_, ifnl, ifnl_, ifnle, ifnle_]
    refine hk _ h8 ⟨rfl, cr8, ?_⟩
    rw [← SO_lo hm] at fs7
    have fl' := flW_len (SO g M n (tlW g M F L W P gg)) (m + 1)
    exact FitS.mid (by rw [flW]; exact fs7) m8 (by omega)
  · rintro lv h' ⟨rfl, cr, fs⟩
    have ok := cr.1.1.1
    obtain ⟨r1, r2, r3, r4, r5, r6, r7, r8⟩ := rd58 it cr.1.1
    have fl := flW_len (SO g M n (tlW g M F L W P gg)) M
    rw [s141_43]
    simp (disch := omega) only [s141_0, s141_1, s141_4, s141_5, s141_8, s141_9, s141_12, s141_13, s141_16, s141_19, s141_20, s141_23, s141_24, s141_25, s141_28, s141_31, s141_34, s141_35, s141_38, s141_41, s141_42, s141_44, s141_45, s141_48, s141_51, s141_54, s141_55, s141_58, s141_59, s141_60, s141_63, s141_64, s141_67, s141_70, s141_71, s141_72, s141_73, s141_74, s141_77, s141_80, s141_81, s141_84, s141_85, s141_88, s141_91, s141_92, s141_95, s141_96, s141_97, s141_100, s141_103, s141_104, s141_107, s141_108, s141_109, s141_112, s141_115, s141_116, s141_117, s141_120, s141_123, s141_126, s141_127, s141_130, s141_131, s141_134, s141_137, s141_138, s141_141, s141_143, s141_144, s141_147, s141_150, true_or, or_true, or_false, false_or, or_self, Int32.reduceLT, Int32.reduceLE, Nat.add_zero, Nat.zero_add, Nat.not_lt_zero, not_false_eq_true, not_true_eq_false, and_assoc, kl_q, kl_i, kl_r, kl_n, kl_0, kl_l, cs_0, cs_i, cs_r, cs_n, cs_l, aRf_s, aRf_n, gi_wl, gi_wr, gl_wi, gl_wl, gl_wr, gr_wi, gr_wl, gr_wr, sh_wi, sh_wl, sh_wr, gl_cp, gr_cp, sh_cp, gl_rw, gr_rw, sh_rw, gi_rl, gr_rl, sh_rl, Option.toList_some, Option.toList_none, List.nil_append, List.cons_append, List.append_nil, Option.some.injEq, Prod.mk.injEq, and_true, true_and, and_self, if_true, if_false, reduceCtorEq, Nat.reduceLeDiff, Nat.reduceLT, Nat.reduceAdd, Nat.reduceEqDiff, false_and, and_false, exists_const, exists_eq_left, exists_eq_left', exists_and_left, and_assoc, nltL, nltR, nleL, nleR, neqL, neqR, naL, naR, nmL, nmR, nI_ltI, nI_leI, nI_eq, nI_add, nI_mul, nI_clamp, n0l, n0r, nm1, nm1', nm1l, nm1r, nm1g, nsL, nI_m1, Nat.add_sub_cancel, vpn, vpL, nclL, le32, leLL, leLN, leNL, leNN, inA, nb0, nb1, gi_wi_n, gi_wi_e, gi_rw_n, gi_rw_e, aWi_rw, ifl, ifl_, ifle, ifle_, ifq, ifq_, ifnq, ifnq_, ifnl, ifnl_, ifnle, ifnle_, z32 ok, z58 ok, z342 ok, r32_3 ok, r32_11 ok, r1, Nat.le_refl, c_room ok r7]
    refine c_goF it P1 P5 hW cr (fun h6 cr6 m6' g6 => ?_)
    have ok := cr6.1.1.1
    have ew : rdA (hdG g F (st0 g) (vo0 g) (dp0 g) P (mud0 g)) M L P (mud0 g) W = twW g M F L W P gg 9 := rfl
    rw [ew] at g6
    simp (disch := omega) only [s141_0, s141_1, s141_4, s141_5, s141_8, s141_9, s141_12, s141_13, s141_16, s141_19, s141_20, s141_23, s141_24, s141_25, s141_28, s141_31, s141_34, s141_35, s141_38, s141_41, s141_42, s141_44, s141_45, s141_48, s141_51, s141_54, s141_55, s141_58, s141_59, s141_60, s141_63, s141_64, s141_67, s141_70, s141_71, s141_72, s141_73, s141_74, s141_77, s141_80, s141_81, s141_84, s141_85, s141_88, s141_91, s141_92, s141_95, s141_96, s141_97, s141_100, s141_103, s141_104, s141_107, s141_108, s141_109, s141_112, s141_115, s141_116, s141_117, s141_120, s141_123, s141_126, s141_127, s141_130, s141_131, s141_134, s141_137, s141_138, s141_141, s141_143, s141_144, s141_147, s141_150, true_or, or_true, or_false, false_or, or_self, Int32.reduceLT, Int32.reduceLE, Nat.add_zero, Nat.zero_add, Nat.not_lt_zero, not_false_eq_true, not_true_eq_false, and_assoc, kl_q, kl_i, kl_r, kl_n, kl_0, kl_l, cs_0, cs_i, cs_r, cs_n, cs_l, aRf_s, aRf_n, gi_wl, gi_wr, gl_wi, gl_wl, gl_wr, gr_wi, gr_wl, gr_wr, sh_wi, sh_wl, sh_wr, gl_cp, gr_cp, sh_cp, gl_rw, gr_rw, sh_rw, gi_rl, gr_rl, sh_rl, Option.toList_some, Option.toList_none, List.nil_append, List.cons_append, List.append_nil, Option.some.injEq, Prod.mk.injEq, and_true, true_and, and_self, if_true, if_false, reduceCtorEq, Nat.reduceLeDiff, Nat.reduceLT, Nat.reduceAdd, Nat.reduceEqDiff, false_and, and_false, exists_const, exists_eq_left, exists_eq_left', exists_and_left, and_assoc, nltL, nltR, nleL, nleR, neqL, neqR, naL, naR, nmL, nmR, nI_ltI, nI_leI, nI_eq, nI_add, nI_mul, nI_clamp, n0l, n0r, nm1, nm1', nm1l, nm1r, nm1g, nsL, nI_m1, Nat.add_sub_cancel, vpn, vpL, nclL, le32, leLL, leLN, leNL, leNN, inA, nb0, nb1, gi_wi_n, gi_wi_e, gi_rw_n, gi_rw_e, aWi_rw, ifl, ifl_, ifle, ifle_, ifq, ifq_, ifnq, ifnq_, ifnl, ifnl_, ifnle, ifnle_, z32 ok, z358 ok, r32_11 ok, r32_12 ok]
    refine c_keep (who := 9) (T := tlW g M F L W P gg) is cr6.1.1 g6 (twW_len hW) (show (flW (SO g M n (tlW g M F L W P gg)) M).length < 7 by omega) (fs.mid m6' (by omega)) (fun i hi => rfl) (fun h7 f7 fs7 => ?_)
    simp (disch := omega) only [s141_0, s141_1, s141_4, s141_5, s141_8, s141_9, s141_12, s141_13, s141_16, s141_19, s141_20, s141_23, s141_24, s141_25, s141_28, s141_31, s141_34, s141_35, s141_38, s141_41, s141_42, s141_44, s141_45, s141_48, s141_51, s141_54, s141_55, s141_58, s141_59, s141_60, s141_63, s141_64, s141_67, s141_70, s141_71, s141_72, s141_73, s141_74, s141_77, s141_80, s141_81, s141_84, s141_85, s141_88, s141_91, s141_92, s141_95, s141_96, s141_97, s141_100, s141_103, s141_104, s141_107, s141_108, s141_109, s141_112, s141_115, s141_116, s141_117, s141_120, s141_123, s141_126, s141_127, s141_130, s141_131, s141_134, s141_137, s141_138, s141_141, s141_143, s141_144, s141_147, s141_150, true_or, or_true, or_false, false_or, or_self, Int32.reduceLT, Int32.reduceLE, Nat.add_zero, Nat.zero_add, Nat.not_lt_zero, not_false_eq_true, not_true_eq_false, and_assoc, kl_q, kl_i, kl_r, kl_n, kl_0, kl_l, cs_0, cs_i, cs_r, cs_n, cs_l, aRf_s, aRf_n, gi_wl, gi_wr, gl_wi, gl_wl, gl_wr, gr_wi, gr_wl, gr_wr, sh_wi, sh_wl, sh_wr, gl_cp, gr_cp, sh_cp, gl_rw, gr_rw, sh_rw, gi_rl, gr_rl, sh_rl, Option.toList_some, Option.toList_none, List.nil_append, List.cons_append, List.append_nil, Option.some.injEq, Prod.mk.injEq, and_true, true_and, and_self, if_true, if_false, reduceCtorEq, Nat.reduceLeDiff, Nat.reduceLT, Nat.reduceAdd, Nat.reduceEqDiff, false_and, and_false, exists_const, exists_eq_left, exists_eq_left', exists_and_left, and_assoc, nltL, nltR, nleL, nleR, neqL, neqR, naL, naR, nmL, nmR, nI_ltI, nI_leI, nI_eq, nI_add, nI_mul, nI_clamp, n0l, n0r, nm1, nm1', nm1l, nm1r, nm1g, nsL, nI_m1, Nat.add_sub_cancel, vpn, vpL, nclL, le32, leLL, leLN, leNL, leNN, inA, nb0, nb1, gi_wi_n, gi_wi_e, gi_rw_n, gi_rw_e, aWi_rw, ifl, ifl_, ifle, ifle_, ifq, ifq_, ifnq, ifnq_, ifnl, ifnl_, ifnle, ifnle_]
    refine hq _ (cr6.1.1.fr f7 kX_scr) ?_
    have e9 := fl_9 (g := g) (M := M) (n := n) (T := tlW g M F L W P gg) (9 - M) (by omega)
    rw [show M + (9 - M) = 9 by omega] at e9
    rw [flW, e9, SO_9]
    exact fs7
end Q23
