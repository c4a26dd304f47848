-- deps: 30.heard
/-! ===== what stays as it was ===== -/
def Fr (X : Nat → Nat → Bool) (h h' : aM) : Prop := OK h' ∧ (∀ a k, gl h' a k = gl h a k) ∧ (∀ a k, gr h' a k = gr h a k) ∧ ∀ a k, X a k = false → gi h' a k = gi h a k
theorem Fr.refl {X : Nat → Nat → Bool} {h : aM} (o : OK h) : Fr X h h := ⟨o, fun _ _ => rfl, fun _ _ => rfl, fun _ _ _ => rfl⟩
theorem Fr.trans {X : Nat → Nat → Bool} {h h' h'' : aM} (a : Fr X h h') (b : Fr X h' h'') : Fr X h h'' := ⟨b.1, fun x k => (b.2.1 x k).trans (a.2.1 x k), fun x k => (b.2.2.1 x k).trans (a.2.2.1 x k), fun x k q => (b.2.2.2 x k q).trans (a.2.2.2 x k q)⟩
theorem Fr.mono {X Y : Nat → Nat → Bool} {h h' : aM} (a : Fr X h h') (m : ∀ a k, X a k = true → Y a k = true) : Fr Y h h' := ⟨a.1, a.2.1, a.2.2.1, fun x k q => a.2.2.2 x k (by
  cases e : X x k
  · rfl
  · rw [m x k e] at q
    cases q)⟩
theorem Fr.wi {X : Nat → Nat → Bool} {h h' : aM} (s : Fr X h h') {a k : Nat} {x : Int32} (q : X a k = true) : Fr X h (aWi h' a k x) := ⟨s.1, s.2.1, s.2.2.1, fun b j r => by
  rw [gi_wi, if_neg, s.2.2.2 b j r]
  rintro ⟨rfl, rfl⟩
  rw [q] at r
  cases r⟩
theorem Fr.rw {X : Nat → Nat → Bool} {h h' : aM} (s : Fr X h h') {a : Nat} {f : Nat → Int32} (q : ∀ k, X a k = true) : Fr X h (aRw h' a f) := ⟨s.1, s.2.1, s.2.2.1, fun b j r => by
  rw [gi_rw, if_neg, s.2.2.2 b j r]
  rintro rfl
  rw [q j] at r
  cases r⟩
theorem SmL.fr {X : Nat → Nat → Bool} {h h' : aM} (s : SmL h h') (m : ∀ a k, LSc a = true → X a k = true) : Fr X h h' := ⟨s.1, s.2.1, s.2.2.1, fun x k q => s.2.2.2 x k (by
  cases e : LSc x
  · rfl
  · rw [m x k e] at q
    cases q)⟩
theorem Same.fr {X : Nat → Nat → Bool} {g h h' : aM} (s : Same g h) (t : Fr X h h') (m : ∀ a k, X a k = true → Scr a k = true) : Same g h' := ⟨t.1, fun a k q => by
  rw [t.2.2.2 a k, s.2 a k q]
  cases e : X a k
  · rfl
  · rw [m a k e] at q
    cases q⟩
theorem SameN.fr {X : Nat → Nat → Bool} {g h h' : aM} (s : SameN g h) (t : Fr X h h') (m : ∀ a k, X a k = true → Scr a k = true ∨ a = 416) : SameN g h' := ⟨t.1, fun a k q r => by
  rw [t.2.2.2 a k, s.2 a k q r]
  cases e : X a k
  · rfl
  · rcases m a k e with h1 | h1
    · rw [h1] at q
      cases q
    · exact (r h1).elim⟩
theorem CoP.fr {X : Nat → Nat → Bool} {g h h' : aM} {M F L : Nat} {st vo dp : Nat → Int32} {P : Nat} {mud : Int32} (c : CoP g h M F L st vo dp P mud) (s : Fr X h h') (m : ∀ a k, X a k = true → Scr a k = true)
    (x : X 342 11 = false ∧ X 342 12 = false ∧ X 342 13 = false ∧ X 342 14 = false) (y : ∀ k, X 346 k = false ∧ X 347 k = false ∧ X 348 k = false ∧ X 349 k = false) : CoP g h' M F L st vo dp P mud := by
  obtain ⟨c1, c2, c3, c4, c5, c6, c7, c8⟩ := c
  refine ⟨c1.fr s m, ?_, ?_, ?_, ?_, ?_, ?_, ?_⟩
  · rw [s.2.2.2 _ _ x.1, c2]
  · rw [s.2.2.2 _ _ x.2.1, c3]
  · rw [s.2.2.2 _ _ x.2.2.1, c4]
  · rw [s.2.2.2 _ _ x.2.2.2, c5]
  · rw [s.2.2.1, c6]
  · intro k hk
    rw [s.2.2.2 _ _ (y k).1, s.2.2.2 _ _ (y k).2.1, s.2.2.2 _ _ (y k).2.2.1]
    exact c7 k hk
  · intro k hk
    rw [s.2.2.2 _ _ (y k).2.2.2]
    exact c8 k hk
def hearX (a _k : Nat) : Bool := LSc a || (Nat.ble 351 a && Nat.ble a 356)
theorem hearX_scr : ∀ a k, hearX a k = true → Scr a k = true := by
  intro a k h
  unfold hearX at h
  rw [Bool.or_eq_true] at h
  rcases h with h | h
  · exact lsc_scr h
  · rw [Bool.and_eq_true] at h
    have h1 := Nat.le_of_ble_eq_true h.1
    have h2 := Nat.le_of_ble_eq_true h.2
    have : Nat.ble 342 a = true := Nat.ble_eq_true_of_le (by omega)
    have : Nat.ble a 357 = true := Nat.ble_eq_true_of_le (by omega)
    simp [Scr, *]
theorem lsc351 {m : Nat} (hm : m < 6) : LSc (351 + m) = false := by
  have : m = 0 ∨ m = 1 ∨ m = 2 ∨ m = 3 ∨ m = 4 ∨ m = 5 := by omega
  rcases this with rfl | rfl | rfl | rfl | rfl | rfl <;> rfl
theorem imax1 {P : Nat} (h1 : 1 ≤ P) (h2 : P < 2 ^ 31) : imax 1 (nI P) = nI P := by
  unfold imax
  split
  · rfl
  · rename_i h
    have : ¬ 1 < P := fun q => h ((nI_ltI (a := 1) (by decide) h2).mpr q)
    have : P = 1 := by omega
    subst this
    rfl
theorem c_hear {d : Nat} {g h : aM} {Q : Option Value → aM → Prop} {M F L W N : Nat} {st vo dp : Nat → Int32} {P : Nat} {mud : Int32} {m0 m1 : Nat} (it : ITold g M F L W) (il : ILaw g N) (pb : PB M st vo P mud) (co : CoP g h M F L st vo dp P mud) (h01 : m0 ≤ m1) (h1M : m1 ≤ M)
    (hq : ∀ h', Fr hearX h h' → (∀ m, m0 ≤ m → m < m1 → ∀ j, j * P ≤ L → gi h' (351 + m) (j * P) = hdG g F st vo dp P mud m (j * P)) → (∀ m, m < 6 → m < m0 ∨ m1 ≤ m → ∀ k, gi h' (351 + m) k = gi h (351 + m) k) → Q none h') :
    AW (d + 4) 8 0 [some (.ref 342), some (.int (nI m0)), some (.int (nI m1)), none, none] [] h Q := by
  have hM : M ≤ 6 := it.1
  have hL : L ≤ 30 := it.2.2.1
  obtain ⟨pb1, P1, P5, pb4⟩ := id pb
  have ok0 := co.1.1
  have e0 := hearX_scr
  simp (disch := omega) only [s8_0, s8_1, s8_3, s8_4, s8_7, s8_8, true_or, or_true, or_false, false_or, or_self, Int32.reduceLT, Int32.reduceLE, Nat.add_zero, Nat.zero_add, Nat.not_lt_zero, not_false_eq_true, not_true_eq_false, and_assoc, kl_q, kl_i, kl_r, kl_n, kl_0, kl_l, cs_0, cs_i, cs_r, cs_n, cs_l, aRf_s, aRf_n, gi_wl, gi_wr, gl_wi, gl_wl, gl_wr, gr_wi, gr_wl, gr_wr, sh_wi, sh_wl, sh_wr, gl_cp, gr_cp, sh_cp, gl_rw, gr_rw, sh_rw, gi_rl, gr_rl, sh_rl, Option.toList_some, Option.toList_none, List.nil_append, List.cons_append, List.append_nil, Option.some.injEq, Prod.mk.injEq, and_true, true_and, and_self, if_true, if_false, reduceCtorEq, Nat.reduceLeDiff, Nat.reduceLT, Nat.reduceAdd, Nat.reduceEqDiff, false_and, and_false, exists_const, exists_eq_left, exists_eq_left', exists_and_left, and_assoc, nltL, nltR, nleL, nleR, neqL, neqR, naL, naR, nmL, nmR, nI_ltI, nI_leI, nI_eq, nI_add, nI_mul, nI_clamp, n0l, n0r, nm1, nm1', nm1l, nm1r, nm1g, nsL, nI_m1, Nat.add_sub_cancel, vpn, vpL, nclL, le32, leLL, leLN, leNL, leNN, inA, nb0, nb1, gi_wi_n, gi_wi_e, gi_rw_n, gi_rw_e, aWi_rw]
  refine aLoop (m1 - m0) (fun i lv h' => ∃ w, lv = [some (.ref 342), some (.int (nI m0)), some (.int (nI m1)), some (.int (nI (m0 + i))), w] ∧ Fr hearX h h' ∧ (∀ m, m0 ≤ m → m < m0 + i → ∀ j, j * P ≤ L → gi h' (351 + m) (j * P) = hdG g F st vo dp P mud m (j * P)) ∧ (∀ m, m < 6 → m < m0 ∨ m0 + i ≤ m → ∀ k, gi h' (351 + m) k = gi h (351 + m) k)) ?_ ?_ 0 _ _ (Nat.zero_le _) ⟨none, rfl, Fr.refl ok0, fun m h1 h2 => by omega, fun m _ _ k => rfl⟩
  · rintro i lv h' hi ⟨w, rfl, f1, f2, f3⟩ hk
    have co' := co.fr f1 hearX_scr ⟨rfl, rfl, rfl, rfl⟩ (fun k => ⟨rfl, rfl, rfl, rfl⟩)
    obtain ⟨c1, c2, c3, c4, c5, c6, c7, c8⟩ := id co'
    have e1 : ¬ m1 ≤ m0 + i := by omega
    have e2 : m0 + i < 6 := by omega
    rw [s8_2]
    simp (disch := omega) only [s8_0, s8_1, s8_3, s8_4, s8_7, s8_8, s8_12, s8_13, s8_16, s8_19, s8_20, s8_23, s8_24, s8_25, s8_27, s8_28, s8_29, s8_31, s8_34, s8_35, s8_37, s8_38, s8_39, s8_42, s8_45, s8_46, s8_48, s8_51, s8_54, s8_57, true_or, or_true, or_false, false_or, or_self, Int32.reduceLT, Int32.reduceLE, Nat.add_zero, Nat.zero_add, Nat.not_lt_zero, not_false_eq_true, not_true_eq_false, and_assoc, kl_q, kl_i, kl_r, kl_n, kl_0, kl_l, cs_0, cs_i, cs_r, cs_n, cs_l, aRf_s, aRf_n, gi_wl, gi_wr, gl_wi, gl_wl, gl_wr, gr_wi, gr_wl, gr_wr, sh_wi, sh_wl, sh_wr, gl_cp, gr_cp, sh_cp, gl_rw, gr_rw, sh_rw, gi_rl, gr_rl, sh_rl, Option.toList_some, Option.toList_none, List.nil_append, List.cons_append, List.append_nil, Option.some.injEq, Prod.mk.injEq, and_true, true_and, and_self, if_true, if_false, reduceCtorEq, Nat.reduceLeDiff, Nat.reduceLT, Nat.reduceAdd, Nat.reduceEqDiff, false_and, and_false, exists_const, exists_eq_left, exists_eq_left', exists_and_left, and_assoc, nltL, nltR, nleL, nleR, neqL, neqR, naL, naR, nmL, nmR, nI_ltI, nI_leI, nI_eq, nI_add, nI_mul, nI_clamp, n0l, n0r, nm1, nm1', nm1l, nm1r, nm1g, nsL, nI_m1, Nat.add_sub_cancel, vpn, vpL, nclL, le32, leLL, leLN, leNL, leNN, inA, nb0, nb1, gi_wi_n, gi_wi_e, gi_rw_n, gi_rw_e, aWi_rw, e1]
    generalize hmm : m0 + i = mm at *
    have hmM : mm < M := by omega
    refine aLoop (L / P + 1) (fun j lv h2 => lv = [some (.ref 342), some (.int (nI m0)), some (.int (nI m1)), some (.int (nI mm)), some (.int (nI (j * P)))] ∧ Fr hearX h' h2 ∧ (∀ j', j' < j → gi h2 (351 + mm) (j' * P) = hdG g F st vo dp P mud mm (j' * P)) ∧ (∀ m, m < 6 → ¬ m = mm → ∀ k, gi h2 (351 + m) k = gi h' (351 + m) k)) ?_ ?_ 0 _ _ (Nat.zero_le _) ⟨by rw [Nat.zero_mul]; rfl, Fr.refl c1.1, fun j' q => by omega, fun m _ _ k => rfl⟩
    · rintro j lv h2 hj ⟨rfl, g1, g2, g3⟩ hk2
      have co2 := co'.fr g1 hearX_scr ⟨rfl, rfl, rfl, rfl⟩ (fun k => ⟨rfl, rfl, rfl, rfl⟩)
      obtain ⟨c1, c2, c3, c4, c5, c6, c7, c8⟩ := id co2
      have ok := c1.1
      have jL : j * P ≤ L := (Nat.le_div_iff_mul_le P1).mp (by omega)
      have e3 : ¬ L < j * P := by omega
      rw [s8_10]
      simp (disch := omega) only [s8_0, s8_1, s8_3, s8_4, s8_7, s8_8, s8_12, s8_13, s8_16, s8_19, s8_20, s8_23, s8_24, s8_25, s8_27, s8_28, s8_29, s8_31, s8_34, s8_35, s8_37, s8_38, s8_39, s8_42, s8_45, s8_46, s8_48, s8_51, s8_54, s8_57, true_or, or_true, or_false, false_or, or_self, Int32.reduceLT, Int32.reduceLE, Nat.add_zero, Nat.zero_add, Nat.not_lt_zero, not_false_eq_true, not_true_eq_false, and_assoc, kl_q, kl_i, kl_r, kl_n, kl_0, kl_l, cs_0, cs_i, cs_r, cs_n, cs_l, aRf_s, aRf_n, gi_wl, gi_wr, gl_wi, gl_wl, gl_wr, gr_wi, gr_wl, gr_wr, sh_wi, sh_wl, sh_wr, gl_cp, gr_cp, sh_cp, gl_rw, gr_rw, sh_rw, gi_rl, gr_rl, sh_rl, Option.toList_some, Option.toList_none, List.nil_append, List.cons_append, List.append_nil, Option.some.injEq, Prod.mk.injEq, and_true, true_and, and_self, if_true, if_false, reduceCtorEq, Nat.reduceLeDiff, Nat.reduceLT, Nat.reduceAdd, Nat.reduceEqDiff, false_and, and_false, exists_const, exists_eq_left, exists_eq_left', exists_and_left, and_assoc, nltL, nltR, nleL, nleR, neqL, neqR, naL, naR, nmL, nmR, nI_ltI, nI_leI, nI_eq, nI_add, nI_mul, nI_clamp, n0l, n0r, nm1, nm1', nm1l, nm1r, nm1g, nsL, nI_m1, Nat.add_sub_cancel, vpn, vpL, nclL, le32, leLL, leLN, leNL, leNN, inA, nb0, nb1, gi_wi_n, gi_wi_e, gi_rw_n, gi_rw_e, aWi_rw, z342 ok, z350 ok, r342_9 ok, c3, e3, g350 ok e2, e2]
      refine c_loud it il pb co2 hmM (by omega) (fun h3 s3 => ?_)
      have ok := s3.1
      have c4' : gi h3 342 13 = nI P := by rw [s3.2.2.2 _ _ rfl, c4]
      have e4 : j * P < 31 := by omega
      have e5 : j * P < 2 ^ 31 := by omega
      simp (disch := omega) only [s8_0, s8_1, s8_3, s8_4, s8_7, s8_8, s8_12, s8_13, s8_16, s8_19, s8_20, s8_23, s8_24, s8_25, s8_27, s8_28, s8_29, s8_31, s8_34, s8_35, s8_37, s8_38, s8_39, s8_42, s8_45, s8_46, s8_48, s8_51, s8_54, s8_57, true_or, or_true, or_false, false_or, or_self, Int32.reduceLT, Int32.reduceLE, Nat.add_zero, Nat.zero_add, Nat.not_lt_zero, not_false_eq_true, not_true_eq_false, and_assoc, kl_q, kl_i, kl_r, kl_n, kl_0, kl_l, cs_0, cs_i, cs_r, cs_n, cs_l, aRf_s, aRf_n, gi_wl, gi_wr, gl_wi, gl_wl, gl_wr, gr_wi, gr_wl, gr_wr, sh_wi, sh_wl, sh_wr, gl_cp, gr_cp, sh_cp, gl_rw, gr_rw, sh_rw, gi_rl, gr_rl, sh_rl, Option.toList_some, Option.toList_none, List.nil_append, List.cons_append, List.append_nil, Option.some.injEq, Prod.mk.injEq, and_true, true_and, and_self, if_true, if_false, reduceCtorEq, Nat.reduceLeDiff, Nat.reduceLT, Nat.reduceAdd, Nat.reduceEqDiff, false_and, and_false, exists_const, exists_eq_left, exists_eq_left', exists_and_left, and_assoc, nltL, nltR, nleL, nleR, neqL, neqR, naL, naR, nmL, nmR, nI_ltI, nI_leI, nI_eq, nI_add, nI_mul, nI_clamp, n0l, n0r, nm1, nm1', nm1l, nm1r, nm1g, nsL, nI_m1, Nat.add_sub_cancel, vpn, vpL, nclL, le32, leLL, leLN, leNL, leNN, inA, nb0, nb1, gi_wi_n, gi_wi_e, gi_rw_n, gi_rw_e, aWi_rw, z342 ok, z350 ok, r342_9 ok, c4', q351 ok e2, e4, sp_max, imax1]
      refine hk2 _ _ ⟨by rw [Nat.succ_mul], (g1.trans (s3.fr (fun a k q => by simp [hearX, q]))).wi (by simp [hearX, Nat.ble_eq]; omega), ?_, ?_⟩
      · intro j' hj'
        by_cases hjj : j' = j
        · subst hjj
          rw [gi_wi_e]
        · have : j' * P < j * P := Nat.mul_lt_mul_of_pos_right (by omega) P1
          rw [gi_wi_n (by omega), s3.2.2.2, g2 j' (by omega)]
          exact lsc351 e2
      · intro m hm6 hm k
        rw [gi_wi_n (by omega), s3.2.2.2 _ _ (lsc351 hm6), g3 m hm6 hm]
    · rintro lv h2 ⟨rfl, g1, g2, g3⟩
      have co2 := co'.fr g1 hearX_scr ⟨rfl, rfl, rfl, rfl⟩ (fun k => ⟨rfl, rfl, rfl, rfl⟩)
      have ok := co2.1.1
      have c3 := co2.2.2.1
      have e3 : L < (L / P + 1) * P := Nat.lt_of_not_le (fun q => by have := (Nat.le_div_iff_mul_le P1).mpr q; omega)
      have e4 : (L / P + 1) * P ≤ L + P := by rw [Nat.succ_mul]; have := Nat.div_mul_le_self L P; omega
      rw [s8_10]
      simp (disch := omega) only [s8_0, s8_1, s8_3, s8_4, s8_7, s8_8, s8_12, s8_13, s8_16, s8_19, s8_20, s8_23, s8_24, s8_25, s8_27, s8_28, s8_29, s8_31, s8_34, s8_35, s8_37, s8_38, s8_39, s8_42, s8_45, s8_46, s8_48, s8_51, s8_54, s8_57, true_or, or_true, or_false, false_or, or_self, Int32.reduceLT, Int32.reduceLE, Nat.add_zero, Nat.zero_add, Nat.not_lt_zero, not_false_eq_true, not_true_eq_false, and_assoc, kl_q, kl_i, kl_r, kl_n, kl_0, kl_l, cs_0, cs_i, cs_r, cs_n, cs_l, aRf_s, aRf_n, gi_wl, gi_wr, gl_wi, gl_wl, gl_wr, gr_wi, gr_wl, gr_wr, sh_wi, sh_wl, sh_wr, gl_cp, gr_cp, sh_cp, gl_rw, gr_rw, sh_rw, gi_rl, gr_rl, sh_rl, Option.toList_some, Option.toList_none, List.nil_append, List.cons_append, List.append_nil, Option.some.injEq, Prod.mk.injEq, and_true, true_and, and_self, if_true, if_false, reduceCtorEq, Nat.reduceLeDiff, Nat.reduceLT, Nat.reduceAdd, Nat.reduceEqDiff, false_and, and_false, exists_const, exists_eq_left, exists_eq_left', exists_and_left, and_assoc, nltL, nltR, nleL, nleR, neqL, neqR, naL, naR, nmL, nmR, nI_ltI, nI_leI, nI_eq, nI_add, nI_mul, nI_clamp, n0l, n0r, nm1, nm1', nm1l, nm1r, nm1g, nsL, nI_m1, Nat.add_sub_cancel, vpn, vpL, nclL, le32, leLL, leLN, leNL, leNN, inA, nb0, nb1, gi_wi_n, gi_wi_e, gi_rw_n, gi_rw_e, aWi_rw, z342 ok, z350 ok, c3, e3]
      refine hk _ _ ⟨_, by rw [← hmm, Nat.add_assoc], f1.trans g1, ?_, ?_⟩
      · intro m a1 a2 j hj
        by_cases hm : m = mm
        · subst hm
          exact g2 j (Nat.lt_succ_of_le ((Nat.le_div_iff_mul_le P1).mpr hj))
        · rw [g3 m (by omega) hm, f2 m a1 (by omega) j hj]
      · intro m a0 a1 k
        rw [g3 m a0 (by omega), f3 m a0 (by omega)]
  · rintro lv h' ⟨w, rfl, f1, f2, f3⟩
    have e1 : m0 + (m1 - m0) = m1 := by omega
    rw [e1] at f2 f3 ⊢
    rw [s8_2]
    simp (disch := omega) only [s8_0, s8_1, s8_3, s8_4, s8_7, s8_8, s8_12, s8_13, s8_16, s8_19, s8_20, s8_23, s8_24, s8_25, s8_27, s8_28, s8_29, s8_31, s8_34, s8_35, s8_37, s8_38, s8_39, s8_42, s8_45, s8_46, s8_48, s8_51, s8_54, s8_57, true_or, or_true, or_false, false_or, or_self, Int32.reduceLT, Int32.reduceLE, Nat.add_zero, Nat.zero_add, Nat.not_lt_zero, not_false_eq_true, not_true_eq_false, and_assoc, kl_q, kl_i, kl_r, kl_n, kl_0, kl_l, cs_0, cs_i, cs_r, cs_n, cs_l, aRf_s, aRf_n, gi_wl, gi_wr, gl_wi, gl_wl, gl_wr, gr_wi, gr_wl, gr_wr, sh_wi, sh_wl, sh_wr, gl_cp, gr_cp, sh_cp, gl_rw, gr_rw, sh_rw, gi_rl, gr_rl, sh_rl, Option.toList_some, Option.toList_none, List.nil_append, List.cons_append, List.append_nil, Option.some.injEq, Prod.mk.injEq, and_true, true_and, and_self, if_true, if_false, reduceCtorEq, Nat.reduceLeDiff, Nat.reduceLT, Nat.reduceAdd, Nat.reduceEqDiff, false_and, and_false, exists_const, exists_eq_left, exists_eq_left', exists_and_left, and_assoc, nltL, nltR, nleL, nleR, neqL, neqR, naL, naR, nmL, nmR, nI_ltI, nI_leI, nI_eq, nI_add, nI_mul, nI_clamp, n0l, n0r, nm1, nm1', nm1l, nm1r, nm1g, nsL, nI_m1, Nat.add_sub_cancel, vpn, vpL, nclL, le32, leLL, leLN, leNL, leNN, inA, nb0, nb1, gi_wi_n, gi_wi_e, gi_rw_n, gi_rw_e, aWi_rw, Nat.le_refl]
    exact hq _ f1 f2 f3
