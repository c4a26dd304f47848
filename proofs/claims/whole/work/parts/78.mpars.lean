-- deps: 77.cpars4
/-! ===== the reference reads laws ===== -/
def ML (sl a k : Nat) : Prop := (a = 399 ∧ (k = 3 ∨ k = 4 ∨ k = 5)) ∨ ((a = 401 ∨ a = 402) ∧ 520 * sl ≤ k ∧ k < 520 * sl + 520) ∨ (a = 403 ∧ k = sl)
def RdM (h : aM) (B : Nat → Nat) (T p : Nat) (ts : List Tk) (sl e : Nat) : Prop := TpM h B T ∧ gi h 399 3 = nI p ∧ gi h 399 4 = -1 ∧ gi h 399 5 = nI e ∧ gi h 399 14 = nI sl ∧ sl ≤ 4 ∧ gi h 403 sl = nI ts.length ∧ ∀ i t, ts[i]? = some t → gi h 401 (520 * sl + i) = nI t.1 ∧ gi h 402 (520 * sl + i) = nI t.2
def EdM (h : aM) (sl q J : Nat) : Prop := OK h ∧ gi h 399 4 = nI q ∧ gi h 399 14 = nI sl ∧ sl ≤ 4 ∧ ∃ c, c ≤ J ∧ gi h 403 sl = nI c
def cJ : Nat → Nat
  | 0 => 2
  | 1 => 2
  | 2 => 1
  | 3 => 1
  | 4 => 0
  | 5 => 6
  | 6 => 6
  | 8 => 5
  | 9 => 4
  | _ => 3
def PostM (B : Nat → Nat) (T : Nat) (ts : List Tk) (sl e m : Nat) (r : PR) (h : aM) : Prop := match r with
  | .inl q => EdM h sl q (250 + 10 * (7 - e) + cJ m)
  | .inr (p, t) => RdM h B T p (ts ++ t) sl e
def mM : Nat → Nat
  | 0 => 179
  | 1 => 179
  | 2 => 178
  | 3 => 178
  | 4 => 177
  | 5 => 185
  | 6 => 184
  | 8 => 183
  | 9 => 182
  | _ => 181
def pM : Nat → Nat
  | 1 => 21
  | 3 => 21
  | _ => 0
def cM : Nat → Nat
  | 0 => 7
  | 1 => 7
  | 2 => 6
  | 3 => 6
  | 4 => 5
  | 5 => 12
  | 6 => 11
  | 8 => 10
  | 9 => 9
  | _ => 8
def lM (B : Nat → Nat) (T m p : Nat) : aV := match m with
  | 1 => [some (.ref 399), some (.int (lkI B T (sk B T p)))]
  | 3 => [some (.ref 399), some (.int (lkI B T (sk B T p)))]
  | 5 => [some (.ref 399)]
  | 6 => [some (.ref 399)]
  | 8 => [some (.ref 399)]
  | _ => [some (.ref 399), none]
def ppM (B : Nat → Nat) (T m p : Nat) : Nat := match m with
  | 1 => sk B T p
  | 3 => sk B T p
  | _ => p
def SimM (B : Nat → Nat) (T n m : Nat) : Prop := ∀ (e p : Nat) (r : PR) (ts : List Tk) (sl : Nat) (h : aM) (d : Nat) (Q : Option Value → aM → Prop), pr B T n m e p = some r → p ≤ T → e ≤ 6 → ts.length ≤ p → RdM h B T (ppM B T m p) ts sl e → (∀ h', Ag (ML sl) h h' → PostM B T ts sl e m r h' → Q none h') → AW (d + 12 * (7 - e) + cM m) (mM m) (pM m) (lM B T m p) [] h Q
section M1
variable {d : Nat} {g h : aM} {Q : Option Value → aM → Prop} {B : Nat → Nat} {T p q n sl e J : Nat} {ts : List Tk}
theorem RdM.ok (r : RdM h B T p ts sl e) : OK h := r.1.1
theorem ml3 {a k : Nat} (z : a = 399 ∧ k = 3) : ML sl a k := Or.inl ⟨z.1, Or.inl z.2⟩
theorem RdM.at {h' : aM} {p' : Nat} (r : RdM h B T p ts sl e) (a : Ag (fun a k => a = 399 ∧ k = 3) h h') (e1 : gi h' 399 3 = nI p') : RdM h' B T p' ts sl e := by
  obtain ⟨r1, r2, r3, r4, r5, r6, r7, r8⟩ := r
  refine ⟨r1.ag a (by omega) (by omega), e1, by rw [a.2 _ _ (by omega), r3], by rw [a.2 _ _ (by omega), r4], by rw [a.2 _ _ (by omega), r5], r6, by rw [a.2 _ _ (by omega), r7], fun i t ht => ?_⟩
  rw [a.2 401 _ (by omega), a.2 402 _ (by omega)]
  exact r8 i t ht
theorem RdM.dp {h' : aM} {p' e' : Nat} (r : RdM h B T p ts sl e) (a : Ag (fun a k => a = 399 ∧ (k = 3 ∨ k = 5)) h h') (e1 : gi h' 399 3 = nI p') (e2 : gi h' 399 5 = nI e') : RdM h' B T p' ts sl e' := by
  obtain ⟨r1, r2, r3, r4, r5, r6, r7, r8⟩ := r
  refine ⟨r1.ag a (by omega) (by omega), e1, by rw [a.2 _ _ (by omega), r3], e2, by rw [a.2 _ _ (by omega), r5], r6, by rw [a.2 _ _ (by omega), r7], fun i t ht => ?_⟩
  rw [a.2 401 _ (by omega), a.2 402 _ (by omega)]
  exact r8 i t ht
theorem m_put {c v : Nat} (r : RdM h B T p ts sl e) (hl : ts.length < 520) (hq : ∀ h', Ag (ML sl) h h' → RdM h' B T p (ts ++ [(c, v)]) sl e → Q none h') : AW d 172 0 [some (.ref 399), some (.int (nI c)), some (.int (nI v))] [] h Q := by
  have ok := r.ok
  obtain ⟨r1, r2, r3, r4, r5, r6, r7, r8⟩ := r
  have i1 : 520 * sl + ts.length < 2600 := by omega
  have i2 : sl < 5 := by omega
  simp (disch := omega) only [s172_0, s172_1, s172_4, s172_7, s172_8, s172_11, s172_12, s172_13, s172_16, s172_17, s172_20, s172_21, s172_22, s172_23, s172_24, s172_25, s172_28, s172_31, s172_32, s172_35, s172_36, s172_37, s172_40, s172_41, s172_44, s172_45, s172_46, s172_47, s172_48, s172_49, s172_52, s172_53, s172_56, s172_57, s172_58, s172_59, s172_60, s172_61, true_or, or_true, or_false, false_or, or_self, Int32.reduceLT, Int32.reduceLE, Nat.add_zero, Nat.zero_add, Nat.not_lt_zero, not_false_eq_true, not_true_eq_false, and_assoc, kl_q, kl_i, kl_r, kl_n, kl_0, kl_l, cs_0, cs_i, cs_r, cs_n, cs_l, aRf_s, aRf_n, gi_wl, gi_wr, gl_wi, gl_wl, gl_wr, gr_wi, gr_wl, gr_wr, sh_wi, sh_wl, sh_wr, gl_cp, gr_cp, sh_cp, gl_rw, gr_rw, sh_rw, gi_rl, gr_rl, sh_rl, Option.toList_some, Option.toList_none, List.nil_append, List.cons_append, List.append_nil, Option.some.injEq, Prod.mk.injEq, and_true, true_and, and_self, if_true, if_false, reduceCtorEq, Nat.reduceLeDiff, Nat.reduceLT, Nat.reduceAdd, Nat.reduceEqDiff, false_and, and_false, exists_const, exists_eq_left, exists_eq_left', exists_and_left, and_assoc, nltL, nltR, nleL, nleR, neqL, neqR, naL, naR, nmL, nmR, nI_ltI, nI_leI, nI_eq, nI_add, nI_mul, nI_clamp, n0l, n0r, nm1, nm1', nm1l, nm1r, nm1g, nsL, nI_m1, Nat.add_sub_cancel, vpn, vpL, nclL, le32, leLL, leLN, leNL, leNN, inA, nb0, nb1, gi_wi_n, gi_wi_e, gi_rw_n, gi_rw_e, aWi_rw, ifl, ifl_, ifle, ifle_, ifq, ifq_, ifnq, ifnq_, ifnl, ifnl_, ifnle, ifnle_, z399 ok, z401 ok, z402 ok, z403 ok, r399_6 ok, r399_7 ok, r399_8 ok, r5, r7, i1, i2]
  obtain ⟨h2, eh2⟩ : ∃ h2, h2 = aWi (aWi (aWi h 401 (520 * sl + ts.length) (nI c)) 402 (520 * sl + ts.length) (nI v)) 403 sl (nI (ts.length + 1)) := ⟨_, rfl⟩
  rw [← eh2]
  have a1 : Ag (ML sl) h h2 := by
    rw [eh2]
    exact (((Ag.refl ok).wi (by unfold ML; omega)).wi (by unfold ML; omega)).wi (by unfold ML; omega)
  have t : ∀ a k, ¬ (401 ≤ a ∧ a ≤ 403) → gi h2 a k = gi h a k := fun a k z => by
    rw [eh2, gi_wi_n (by omega), gi_wi_n (by omega), gi_wi_n (by omega)]
  refine hq _ a1 ⟨r1.ag a1 (by unfold ML; omega) (by unfold ML; omega), by rw [t _ _ (by omega), r2], by rw [t _ _ (by omega), r3], by rw [t _ _ (by omega), r4], by rw [t _ _ (by omega), r5], r6, ?_, fun i u hu => ?_⟩
  · rw [eh2, gi_wi_e, List.length_append]
    rfl
  · by_cases hi : i = ts.length
    · subst hi
      rw [List.getElem?_append_right (Nat.le_refl _), Nat.sub_self] at hu
      have : (c, v) = u := by simpa using hu
      subst this
      rw [eh2, gi_wi_n (by omega), gi_wi_n (by omega), gi_wi_e, gi_wi_n (by omega), gi_wi_e]
      exact ⟨rfl, rfl⟩
    · have hi2 : i < ts.length := by
        rcases Nat.lt_or_ge i ts.length with q | q
        · exact q
        · rw [List.getElem?_append_right q, List.getElem?_eq_none (by rw [List.length_singleton]; omega)] at hu
          cases hu
      rw [List.getElem?_append_left hi2] at hu
      rw [eh2, gi_wi_n (by omega), gi_wi_n (by omega), gi_wi_n (by omega), gi_wi_n (by omega), gi_wi_n (by omega), gi_wi_n (by omega)]
      exact r8 i u hu
theorem m_putE {c v : Int32} (r : EdM h sl q J) (hl : J < 519) (hq : ∀ h', Ag (ML sl) h h' → EdM h' sl q (J + 1) → Q none h') : AW d 172 0 [some (.ref 399), some (.int c), some (.int v)] [] h Q := by
  obtain ⟨ok, r2, r5, r6, l, r7, r8⟩ := r
  have i1 : 520 * sl + l < 2600 := by omega
  have i2 : sl < 5 := by omega
  simp (disch := omega) only [s172_0, s172_1, s172_4, s172_7, s172_8, s172_11, s172_12, s172_13, s172_16, s172_17, s172_20, s172_21, s172_22, s172_23, s172_24, s172_25, s172_28, s172_31, s172_32, s172_35, s172_36, s172_37, s172_40, s172_41, s172_44, s172_45, s172_46, s172_47, s172_48, s172_49, s172_52, s172_53, s172_56, s172_57, s172_58, s172_59, s172_60, s172_61, true_or, or_true, or_false, false_or, or_self, Int32.reduceLT, Int32.reduceLE, Nat.add_zero, Nat.zero_add, Nat.not_lt_zero, not_false_eq_true, not_true_eq_false, and_assoc, kl_q, kl_i, kl_r, kl_n, kl_0, kl_l, cs_0, cs_i, cs_r, cs_n, cs_l, aRf_s, aRf_n, gi_wl, gi_wr, gl_wi, gl_wl, gl_wr, gr_wi, gr_wl, gr_wr, sh_wi, sh_wl, sh_wr, gl_cp, gr_cp, sh_cp, gl_rw, gr_rw, sh_rw, gi_rl, gr_rl, sh_rl, Option.toList_some, Option.toList_none, List.nil_append, List.cons_append, List.append_nil, Option.some.injEq, Prod.mk.injEq, and_true, true_and, and_self, if_true, if_false, reduceCtorEq, Nat.reduceLeDiff, Nat.reduceLT, Nat.reduceAdd, Nat.reduceEqDiff, false_and, and_false, exists_const, exists_eq_left, exists_eq_left', exists_and_left, and_assoc, nltL, nltR, nleL, nleR, neqL, neqR, naL, naR, nmL, nmR, nI_ltI, nI_leI, nI_eq, nI_add, nI_mul, nI_clamp, n0l, n0r, nm1, nm1', nm1l, nm1r, nm1g, nsL, nI_m1, Nat.add_sub_cancel, vpn, vpL, nclL, le32, leLL, leLN, leNL, leNN, inA, nb0, nb1, gi_wi_n, gi_wi_e, gi_rw_n, gi_rw_e, aWi_rw, ifl, ifl_, ifle, ifle_, ifq, ifq_, ifnq, ifnq_, ifnl, ifnl_, ifnle, ifnle_, z399 ok, z401 ok, z402 ok, z403 ok, r399_6 ok, r399_7 ok, r399_8 ok, r5, r8, i1, i2]
  refine hq _ ((((Ag.refl ok).wi (by unfold ML; omega)).wi (by unfold ML; omega)).wi (by unfold ML; omega)) ⟨ok, ?_, ?_, r6, l + 1, by omega, gi_wi_e⟩
  · rw [gi_wi_n (by omega), gi_wi_n (by omega), gi_wi_n (by omega), r2]
  · rw [gi_wi_n (by omega), gi_wi_n (by omega), gi_wi_n (by omega), r5]
theorem EdM.wi {k : Nat} {x : Int32} (r : EdM h sl q J) (hk : k = 3 ∨ k = 5) : EdM (aWi h 399 k x) sl q J := by
  obtain ⟨ok, r2, r5, r6, l, r7, r8⟩ := r
  exact ⟨ok, by rw [gi_wi_n (by omega), r2], by rw [gi_wi_n (by omega), r5], r6, l, r7, by rw [gi_wi_n (by omega), r8]⟩
theorem EdM.mono {J' : Nat} (r : EdM h sl q J) (hJ : J ≤ J') : EdM h sl q J' := by
  obtain ⟨ok, r2, r5, r6, l, r7, r8⟩ := r
  exact ⟨ok, r2, r5, r6, l, by omega, r8⟩
theorem EdM.n1 (r : EdM h sl q J) (hq : q < 2 ^ 31) : ¬ gi h 399 4 = -1 := by
  rw [r.2.1]
  exact fun z => (nm1 hq).mp z
/-- wrong here, and nothing was wrong yet -/
theorem RdM.bad (r : RdM h B T p ts sl e) (hl : ts.length ≤ J) : EdM (aWi h 399 4 (nI p)) sl p J ∧ Ag (ML sl) h (aWi h 399 4 (nI p)) := by
  obtain ⟨r1, r2, r3, r4, r5, r6, r7, r8⟩ := r
  exact ⟨⟨r1.1, gi_wi_e, by rw [gi_wi_n (by omega), r5], r6, ts.length, hl, by rw [gi_wi_n (by omega), r7]⟩, (Ag.refl r1.1).wi (Or.inl ⟨rfl, Or.inr (Or.inl rfl)⟩)⟩
theorem m_ltr (hb : ∀ i, i < T → B i < 256) : AW d 173 0 [some (.int (lkI B T q))] [] h Q ↔ Q (some (.int (match ltO (sgB B T q) with
    | some l => nI l
    | none => -1))) h := by
  have l0 := lk_sg (q := q) hb (b := 118) (by omega) (by omega)
  have l1 := lk_sg (q := q) hb (b := 100) (by omega) (by omega)
  have l2 := lk_sg (q := q) hb (b := 112) (by omega) (by omega)
  have l3 := lk_sg (q := q) hb (b := 109) (by omega) (by omega)
  have l4 := lk_sg (q := q) hb (b := 114) (by omega) (by omega)
  have l5 := lk_sg (q := q) hb (b := 110) (by omega) (by omega)
  rw [show nI 118 = (118 : Int32) from rfl] at l0
  rw [show nI 100 = (100 : Int32) from rfl] at l1
  rw [show nI 112 = (112 : Int32) from rfl] at l2
  rw [show nI 109 = (109 : Int32) from rfl] at l3
  rw [show nI 114 = (114 : Int32) from rfl] at l4
  rw [show nI 110 = (110 : Int32) from rfl] at l5
  unfold ltO
  simp only [s173_0, s173_1, s173_3, s173_6, s173_7, s173_10, s173_11, s173_13, s173_16, s173_17, s173_20, s173_21, s173_23, s173_26, s173_27, s173_30, s173_31, s173_33, s173_36, s173_37, s173_40, s173_41, s173_43, s173_46, s173_47, s173_50, s173_51, s173_53, s173_56, s173_57, s173_60, s173_61, true_or, or_true, or_false, false_or, or_self, Int32.reduceLT, Int32.reduceLE, Nat.add_zero, Nat.zero_add, Nat.not_lt_zero, not_false_eq_true, not_true_eq_false, and_assoc, kl_q, kl_i, kl_r, kl_n, kl_0, kl_l, cs_0, cs_i, cs_r, cs_n, cs_l, aRf_s, aRf_n, gi_wl, gi_wr, gl_wi, gl_wl, gl_wr, gr_wi, gr_wl, gr_wr, sh_wi, sh_wl, sh_wr, gl_cp, gr_cp, sh_cp, gl_rw, gr_rw, sh_rw, gi_rl, gr_rl, sh_rl, Option.toList_some, Option.toList_none, List.nil_append, List.cons_append, List.append_nil, Option.some.injEq, Prod.mk.injEq, and_true, true_and, and_self, if_true, if_false, reduceCtorEq, Nat.reduceLeDiff, Nat.reduceLT, Nat.reduceAdd, Nat.reduceEqDiff, false_and, and_false, exists_const, exists_eq_left, exists_eq_left', exists_and_left, and_assoc, l0, l1, l2, l3, l4, l5]
  by_cases h0 : sgB B T q = 118
  · simp [h0]
    rfl
  · by_cases h1 : sgB B T q = 100
    · simp [h1]
      rfl
    · by_cases h2 : sgB B T q = 112
      · simp [h2]
        rfl
      · by_cases h3 : sgB B T q = 109
        · simp [h3]
          rfl
        · by_cases h4 : sgB B T q = 114
          · simp [h4]
            rfl
          · by_cases h5 : sgB B T q = 110
            · simp [h5]
              rfl
            · simp [h0, h1, h2, h3, h4, h5]
end M1
