-- deps: 94.mitems2
section N3
variable {d : Nat} {Q : Option Value → aM → Prop} {B : Nat → Nat} {T p κ A fr sz : Nat} {r : IR}
theorem itG_ex (hκ : κ < 3) : ∀ (f p w : Nat) (row : Nat → Nat), p ≤ T → w < 2 ^ mK κ → mK κ + 1 ≤ f + bc w → ∃ r, itG B T κ f p w row = some r
  | 0, p, w, row, hp, hw, hf => by
    have := (bitM κ hκ w hw).1
    omega
  | f + 1, p, w, row, hp, hw, hf => by
    have hs := sk_le (B := B) hp
    have m1 := mK_le (κ := κ)
    obtain ⟨b1, b2, b3⟩ := bitM κ hκ w hw
    unfold itG
    cases hk : ltK κ (sgB B T (sk B T p)) with
    | none => exact ⟨_, rfl⟩
    | some k =>
      obtain ⟨hkm, hb0⟩ := ltK_lt hk
      have hpT : sk B T p < T := by
        unfold sgB at hb0
        split at hb0
        · assumption
        · omega
      have hs2 := sk_le (B := B) (T := T) (p := sk B T p + 1) (by omega)
      simp only
      cases ht : w.testBit k with
      | true => exact ⟨_, rfl⟩
      | false =>
        rw [if_neg (by decide)]
        cases hn : nmG B T (loK κ k) (hiK κ k) (sk B T (sk B T p + 1)) with
        | inl q => exact ⟨_, rfl⟩
        | inr x =>
          obtain ⟨p', v⟩ := x
          have h1 := nmG_o hs2.2 hn
          exact itG_ex hκ f p' _ _ h1.2.1 (b3 k hkm).1 (by rw [bitC w b2 k (by omega) ht]; omega)
def IpR (T κ p : Nat) (r : IR) : Prop := match r with
  | .inl q => q ≤ T
  | .inr (p', row) => p ≤ p' ∧ p' ≤ T ∧ ∀ k, k < mK κ → loK κ k ≤ row k ∧ row k ≤ hiK κ k
theorem itG_pos : ∀ (f p w : Nat) (row : Nat → Nat), itG B T κ f p w row = some r → p ≤ T → (∀ k, k < mK κ → loK κ k ≤ row k ∧ row k ≤ hiK κ k) → IpR T κ p r
  | 0, p, w, row, h, hp, hr => by
    unfold itG at h
    cases h
  | f + 1, p, w, row, h, hp, hr => by
    have hs := sk_le (B := B) hp
    unfold itG at h
    cases hk : ltK κ (sgB B T (sk B T p)) with
    | none =>
      rw [hk] at h
      cases h
      exact ⟨hs.1, hs.2, hr⟩
    | some k =>
      rw [hk] at h
      simp only at h
      obtain ⟨hkm, hb0⟩ := ltK_lt hk
      have hpT : sk B T p < T := by
        unfold sgB at hb0
        split at hb0
        · assumption
        · omega
      have hs2 := sk_le (B := B) (T := T) (p := sk B T p + 1) (by omega)
      split at h
      · cases h
        exact hs.2
      · cases hn : nmG B T (loK κ k) (hiK κ k) (sk B T (sk B T p + 1)) with
        | inl q =>
          rw [hn] at h
          cases h
          exact nmG_e hs2.2 hn
        | inr x =>
          obtain ⟨p', v⟩ := x
          rw [hn] at h
          simp only at h
          have h1 := nmG_o hs2.2 hn
          have h2 := itG_pos f p' _ _ h h1.2.1 (fun j hj => by
            unfold upN
            split
            · next e => rw [e]; exact ⟨h1.2.2.1, h1.2.2.2⟩
            · exact hr j hj)
          cases r with
          | inl q => exact h2
          | inr y =>
            obtain ⟨p9, row9⟩ := y
            obtain ⟨z1, z2, z3⟩ := h2
            exact ⟨by omega, z2, z3⟩
theorem ItM.at {h h' : aM} {p' : Nat} {row : Nat → Nat} (r : ItM h B T p A fr κ row) (hA : 410 ≤ A) (a : Ag (fun a k => a = 399 ∧ k = 3) h h') (e : gi h' 399 3 = nI p') : ItM h' B T p' A fr κ row := by
  obtain ⟨r1, r2, r3, r4⟩ := r
  refine ⟨r1.ag a (by omega) (by omega), e, by rw [a.2 _ _ (by omega), r3], fun k hk => ?_⟩
  rw [a.2 _ _ (by omega)]
  exact r4 k hk
theorem m3_iy {a k : Nat} (z : a = 399 ∧ k = 3) : IY A fr κ a k := Or.inl ⟨z.1, Or.inl z.2⟩
theorem m_itGo (hκ : κ < 3) (hA : 410 ≤ A ∧ A ≤ 412) (hsA : ∀ h, OK h → sh h A = some (100, sz)) (hsz : fr + mK κ ≤ sz) (hsz2 : sz ≤ 24) : ∀ (f p w : Nat) (row : Nat → Nat) (h : aM), itG B T κ f p w row = some r → p ≤ T → w < 2 ^ mK κ → ItM h B T (sk B T p) A fr κ row → (∀ h', Ag (IY A fr κ) h h' → PostP B T A fr κ r h' → Q none h') → AW (d + 3) 199 41 [some (.ref 399), some (.int (ckI κ)), some (.ref A), some (.int (nI fr)), some (.int (nI (mK κ))), some (.int (nI w)), some (.int (itX B T κ p))] [] h Q := by
  intro f
  induction f with
  | zero =>
    intro p w row h hr
    unfold itG at hr
    cases hr
  | succ f ih =>
    intro p w row h hr hp hw rc hq
    unfold itG at hr
    have ok := rc.1.1
    have hT := rc.1.2.1
    have hbb := rc.1.2.2.2.2
    have hs := sk_le (B := B) hp
    have m1 := mK_le (κ := κ)
    have w0 := rc.2.2.1
    obtain ⟨bM1, bM2, bM3⟩ := bitM κ hκ w hw
    rw [s199_41]
    unfold itX
    cases hk : ltK κ (sgB B T (sk B T p)) with
    | none =>
      rw [hk] at hr
      cases hr
      simp (disch := omega) only [s199_42, s199_45, s199_46, s199_49, s199_51, s199_52, s199_55, s199_57, s199_59, s199_62, s199_65, s199_67, s199_68, s199_70, s199_71, s199_72, s199_74, s199_75, s199_75i, s199_76, s199_79, s199_80, s199_81, s199_84, s199_85, s199_86, s199_88, s199_89, s199_90, s199_91, s199_93, s199_96, s199_97, s199_99, s199_102, s199_105, s199_106, s199_107, s199_110, s199_111, s199_114, s199_115, s199_116, s199_119, s199_122, s199_125, s199_126, s199_128, s199_131, true_or, or_true, or_false, false_or, or_self, Int32.reduceLT, Int32.reduceLE, Nat.add_zero, Nat.zero_add, Nat.not_lt_zero, not_false_eq_true, not_true_eq_false, and_assoc, kl_q, kl_i, kl_r, kl_n, kl_0, kl_l, cs_0, cs_i, cs_r, cs_n, cs_l, aRf_s, aRf_n, gi_wl, gi_wr, gl_wi, gl_wl, gl_wr, gr_wi, gr_wl, gr_wr, sh_wi, sh_wl, sh_wr, gl_cp, gr_cp, sh_cp, gl_rw, gr_rw, sh_rw, gi_rl, gr_rl, sh_rl, Option.toList_some, Option.toList_none, List.nil_append, List.cons_append, List.append_nil, Option.some.injEq, Prod.mk.injEq, and_true, true_and, and_self, if_true, if_false, reduceCtorEq, Nat.reduceLeDiff, Nat.reduceLT, Nat.reduceAdd, Nat.reduceEqDiff, false_and, and_false, exists_const, exists_eq_left, exists_eq_left', exists_and_left, and_assoc, nltL, nltR, nleL, nleR, neqL, neqR, naL, naR, nmL, nmR, nI_ltI, nI_leI, nI_eq, nI_add, nI_mul, nI_clamp, n0l, n0r, nm1, nm1', nm1l, nm1r, nm1g, nsL, nI_m1, Nat.add_sub_cancel, vpn, vpL, nclL, le32, leLL, leLN, leNL, leNN, inA, nb0, nb1, gi_wi_n, gi_wi_e, gi_rw_n, gi_rw_e, aWi_rw, ifl, ifl_, ifle, ifle_, ifq, ifq_, ifnq, ifnq_, ifnl, ifnl_, ifnle, ifnle_, z399 ok, w0]
      exact hq h (Ag.refl ok) rc
    | some k =>
      rw [hk] at hr
      simp only at hr
      obtain ⟨hkm, hb0⟩ := ltK_lt hk
      have hpT : sk B T p < T := by
        unfold sgB at hb0
        split at hb0
        · assumption
        · omega
      have hs2 := sk_le (B := B) (T := T) (p := sk B T p + 1) (by omega)
      have bO := bitO w bM2 k (by omega)
      have f0 := rc.2.1
      have lk := loH κ hκ k (by omega)
      cases ht : w.testBit k with
      | true =>
        rw [ht, if_pos rfl] at hr
        cases hr
        simp (disch := omega) only [s199_42, s199_45, s199_46, s199_49, s199_51, s199_52, s199_55, s199_57, s199_59, s199_62, s199_65, s199_67, s199_68, s199_70, s199_71, s199_72, s199_74, s199_75, s199_75i, s199_76, s199_79, s199_80, s199_81, s199_84, s199_85, s199_86, s199_88, s199_89, s199_90, s199_91, s199_93, s199_96, s199_97, s199_99, s199_102, s199_105, s199_106, s199_107, s199_110, s199_111, s199_114, s199_115, s199_116, s199_119, s199_122, s199_125, s199_126, s199_128, s199_131, true_or, or_true, or_false, false_or, or_self, Int32.reduceLT, Int32.reduceLE, Nat.add_zero, Nat.zero_add, Nat.not_lt_zero, not_false_eq_true, not_true_eq_false, and_assoc, kl_q, kl_i, kl_r, kl_n, kl_0, kl_l, cs_0, cs_i, cs_r, cs_n, cs_l, aRf_s, aRf_n, gi_wl, gi_wr, gl_wi, gl_wl, gl_wr, gr_wi, gr_wl, gr_wr, sh_wi, sh_wl, sh_wr, gl_cp, gr_cp, sh_cp, gl_rw, gr_rw, sh_rw, gi_rl, gr_rl, sh_rl, Option.toList_some, Option.toList_none, List.nil_append, List.cons_append, List.append_nil, Option.some.injEq, Prod.mk.injEq, and_true, true_and, and_self, if_true, if_false, reduceCtorEq, Nat.reduceLeDiff, Nat.reduceLT, Nat.reduceAdd, Nat.reduceEqDiff, false_and, and_false, exists_const, exists_eq_left, exists_eq_left', exists_and_left, and_assoc, nltL, nltR, nleL, nleR, neqL, neqR, naL, naR, nmL, nmR, nI_ltI, nI_leI, nI_eq, nI_add, nI_mul, nI_clamp, n0l, n0r, nm1, nm1', nm1l, nm1r, nm1g, nsL, nI_m1, Nat.add_sub_cancel, vpn, vpL, nclL, le32, leLL, leLN, leNL, leNN, inA, nb0, nb1, gi_wi_n, gi_wi_e, gi_rw_n, gi_rw_e, aWi_rw, ifl, ifl_, ifle, ifle_, ifq, ifq_, ifnq, ifnq_, ifnl, ifnl_, ifnle, ifnle_, z399 ok, w0, m_has bM2 (show k < 5 by omega), ht, bI_0, Bool.true_eq_false]
        exact hq h (Ag.refl ok) ⟨ok, Or.inr ⟨rc.1, w0, f0, k, hk⟩⟩
      | false =>
        rw [ht, if_neg (by decide)] at hr
        simp (disch := omega) only [s199_42, s199_45, s199_46, s199_49, s199_51, s199_52, s199_55, s199_57, s199_59, s199_62, s199_65, s199_67, s199_68, s199_70, s199_71, s199_72, s199_74, s199_75, s199_75i, s199_76, s199_79, s199_80, s199_81, s199_84, s199_85, s199_86, s199_88, s199_89, s199_90, s199_91, s199_93, s199_96, s199_97, s199_99, s199_102, true_or, or_true, or_false, false_or, or_self, Int32.reduceLT, Int32.reduceLE, Nat.add_zero, Nat.zero_add, Nat.not_lt_zero, not_false_eq_true, not_true_eq_false, and_assoc, kl_q, kl_i, kl_r, kl_n, kl_0, kl_l, cs_0, cs_i, cs_r, cs_n, cs_l, aRf_s, aRf_n, gi_wl, gi_wr, gl_wi, gl_wl, gl_wr, gr_wi, gr_wl, gr_wr, sh_wi, sh_wl, sh_wr, gl_cp, gr_cp, sh_cp, gl_rw, gr_rw, sh_rw, gi_rl, gr_rl, sh_rl, Option.toList_some, Option.toList_none, List.nil_append, List.cons_append, List.append_nil, Option.some.injEq, Prod.mk.injEq, and_true, true_and, and_self, if_true, if_false, reduceCtorEq, Nat.reduceLeDiff, Nat.reduceLT, Nat.reduceAdd, Nat.reduceEqDiff, false_and, and_false, exists_const, exists_eq_left, exists_eq_left', exists_and_left, and_assoc, nltL, nltR, nleL, nleR, neqL, neqR, naL, naR, nmL, nmR, nI_ltI, nI_leI, nI_eq, nI_add, nI_mul, nI_clamp, n0l, n0r, nm1, nm1', nm1l, nm1r, nm1g, nsL, nI_m1, Nat.add_sub_cancel, vpn, vpL, nclL, le32, leLL, leLN, leNL, leNN, inA, nb0, nb1, gi_wi_n, gi_wi_e, gi_rw_n, gi_rw_e, aWi_rw, ifl, ifl_, ifle, ifle_, ifq, ifq_, ifnq, ifnq_, ifnl, ifnl_, ifnle, ifnle_, z399 ok, w0, m_has bM2 (show k < 5 by omega), ht, bI_0, bO, f0, m_low hκ hkm, m_high hκ hkm]
        have rc1 : ItM (aWi h 399 3 (nI (sk B T p + 1))) B T (sk B T p + 1) A fr κ row := rc.at hA.1 ((Ag.refl ok).wi ⟨rfl, rfl⟩) gi_wi_e
        have b1 : Ag (IY A fr κ) h (aWi h 399 3 (nI (sk B T p + 1))) := (Ag.refl ok).wi (m3_iy ⟨rfl, rfl⟩)
        have i1 : fr + k < sz := by omega
        refine m_number lk.1 lk.2.1 rc1.1 (by omega) rc1.2.1 rc1.2.2.1 (fun p' v hn h2 a2 f2 => ?_) (fun q hn v h2 a2 f2 => ?_)
        · rw [hn] at hr
          simp only at hr
          have h1 := nmG_o hs2.2 hn
          have rc2 := rc1.at hA.1 a2 f2
          have ok := rc2.1.1
          have hs3 := sk_le (B := B) h1.2.1
          have hsa := hsA h2 ok
          have w2 := rc2.2.2.1
          have b2 : Ag (IY A fr κ) h h2 := b1.trans (a2.mono (fun a k z => m3_iy z))
          simp (disch := omega) only [s199_102, s199_105, s199_106, s199_107, s199_110, s199_111, s199_114, s199_115, s199_116, true_or, or_true, or_false, false_or, or_self, Int32.reduceLT, Int32.reduceLE, Nat.add_zero, Nat.zero_add, Nat.not_lt_zero, not_false_eq_true, not_true_eq_false, and_assoc, kl_q, kl_i, kl_r, kl_n, kl_0, kl_l, cs_0, cs_i, cs_r, cs_n, cs_l, aRf_s, aRf_n, gi_wl, gi_wr, gl_wi, gl_wl, gl_wr, gr_wi, gr_wl, gr_wr, sh_wi, sh_wl, sh_wr, gl_cp, gr_cp, sh_cp, gl_rw, gr_rw, sh_rw, gi_rl, gr_rl, sh_rl, Option.toList_some, Option.toList_none, List.nil_append, List.cons_append, List.append_nil, Option.some.injEq, Prod.mk.injEq, and_true, true_and, and_self, if_true, if_false, reduceCtorEq, Nat.reduceLeDiff, Nat.reduceLT, Nat.reduceAdd, Nat.reduceEqDiff, false_and, and_false, exists_const, exists_eq_left, exists_eq_left', exists_and_left, and_assoc, nltL, nltR, nleL, nleR, neqL, neqR, naL, naR, nmL, nmR, nI_ltI, nI_leI, nI_eq, nI_add, nI_mul, nI_clamp, n0l, n0r, nm1, nm1', nm1l, nm1r, nm1g, nsL, nI_m1, Nat.add_sub_cancel, vpn, vpL, nclL, le32, leLL, leLN, leNL, leNN, inA, nb0, nb1, gi_wi_n, gi_wi_e, gi_rw_n, gi_rw_e, aWi_rw, ifl, ifl_, ifle, ifle_, ifq, ifq_, ifnq, ifnq_, ifnl, ifnl_, ifnle, ifnle_, z399 ok, hsa, i1, w2]
          refine ⟨by omega, ?_⟩
          have rc3 : ItM (aWi h2 A (fr + k) (nI v)) B T p' A fr κ (upN row k v) := by
            obtain ⟨r1, r2, r3, r4⟩ := rc2
            have aw : Ag (fun a _ => a = A) h2 (aWi h2 A (fr + k) (nI v)) := (Ag.refl ok).wi rfl
            refine ⟨r1.ag aw (by omega) (by omega), by rw [gi_wi_n (by omega), r2], by rw [gi_wi_n (by omega), r3], fun j hj => ?_⟩
            unfold upN
            by_cases hjk : j = k
            · subst hjk
              rw [gi_wi_e, if_pos rfl]
            · rw [gi_wi_n (by omega), if_neg hjk]
              exact r4 j hj
          have b3 : Ag (IY A fr κ) h (aWi h2 A (fr + k) (nI v)) := b2.trans ((Ag.refl ok).wi (Or.inr ⟨rfl, by omega, by omega⟩))
          refine m_lookM rc3.1 h1.2.1 rc3.2.1 (fun h4 a4 f4 => ?_)
          have rc4 := rc3.at hA.1 a4 f4
          simp (disch := omega) only [s199_119, s199_122, s199_125, s199_126, s199_128, true_or, or_true, or_false, false_or, or_self, Int32.reduceLT, Int32.reduceLE, Nat.add_zero, Nat.zero_add, Nat.not_lt_zero, not_false_eq_true, not_true_eq_false, and_assoc, kl_q, kl_i, kl_r, kl_n, kl_0, kl_l, cs_0, cs_i, cs_r, cs_n, cs_l, aRf_s, aRf_n, gi_wl, gi_wr, gl_wi, gl_wl, gl_wr, gr_wi, gr_wl, gr_wr, sh_wi, sh_wl, sh_wr, gl_cp, gr_cp, sh_cp, gl_rw, gr_rw, sh_rw, gi_rl, gr_rl, sh_rl, Option.toList_some, Option.toList_none, List.nil_append, List.cons_append, List.append_nil, Option.some.injEq, Prod.mk.injEq, and_true, true_and, and_self, if_true, if_false, reduceCtorEq, Nat.reduceLeDiff, Nat.reduceLT, Nat.reduceAdd, Nat.reduceEqDiff, false_and, and_false, exists_const, exists_eq_left, exists_eq_left', exists_and_left, and_assoc, nltL, nltR, nleL, nleR, neqL, neqR, naL, naR, nmL, nmR, nI_ltI, nI_leI, nI_eq, nI_add, nI_mul, nI_clamp, n0l, n0r, nm1, nm1', nm1l, nm1r, nm1g, nsL, nI_m1, Nat.add_sub_cancel, vpn, vpL, nclL, le32, leLL, leLN, leNL, leNN, inA, nb0, nb1, gi_wi_n, gi_wi_e, gi_rw_n, gi_rw_e, aWi_rw, ifl, ifl_, ifle, ifle_, ifq, ifq_, ifnq, ifnq_, ifnl, ifnl_, ifnle, ifnle_, m_itemOf hbb hκ]
          exact ih p' _ _ h4 hr h1.2.1 (bM3 k hkm).1 rc4 (fun h5 a5 p5 => hq h5 ((b3.trans (a4.mono (fun a k z => m3_iy z))).trans a5) p5)
        · rw [hn] at hr
          cases hr
          have h1 := nmG_e hs2.2 hn
          have ok := a2.1
          have hsa := hsA h2 ok
          simp (disch := omega) only [s199_102, s199_105, s199_106, s199_107, s199_110, s199_111, s199_114, s199_115, s199_116, s199_119, s199_122, s199_125, s199_126, s199_128, true_or, or_true, or_false, false_or, or_self, Int32.reduceLT, Int32.reduceLE, Nat.add_zero, Nat.zero_add, Nat.not_lt_zero, not_false_eq_true, not_true_eq_false, and_assoc, kl_q, kl_i, kl_r, kl_n, kl_0, kl_l, cs_0, cs_i, cs_r, cs_n, cs_l, aRf_s, aRf_n, gi_wl, gi_wr, gl_wi, gl_wl, gl_wr, gr_wi, gr_wl, gr_wr, sh_wi, sh_wl, sh_wr, gl_cp, gr_cp, sh_cp, gl_rw, gr_rw, sh_rw, gi_rl, gr_rl, sh_rl, Option.toList_some, Option.toList_none, List.nil_append, List.cons_append, List.append_nil, Option.some.injEq, Prod.mk.injEq, and_true, true_and, and_self, if_true, if_false, reduceCtorEq, Nat.reduceLeDiff, Nat.reduceLT, Nat.reduceAdd, Nat.reduceEqDiff, false_and, and_false, exists_const, exists_eq_left, exists_eq_left', exists_and_left, and_assoc, nltL, nltR, nleL, nleR, neqL, neqR, naL, naR, nmL, nmR, nI_ltI, nI_leI, nI_eq, nI_add, nI_mul, nI_clamp, n0l, n0r, nm1, nm1', nm1l, nm1r, nm1g, nsL, nI_m1, Nat.add_sub_cancel, vpn, vpL, nclL, le32, leLL, leLN, leNL, leNN, inA, nb0, nb1, gi_wi_n, gi_wi_e, gi_rw_n, gi_rw_e, aWi_rw, ifl, ifl_, ifle, ifle_, ifq, ifq_, ifnq, ifnq_, ifnl, ifnl_, ifnle, ifnle_, z399 ok, hsa, i1, f2]
          refine ⟨by omega, ?_⟩
          rw [s199_41]
          have ok3 : OK (aWi h2 A (fr + k) v) := ok
          simp (disch := omega) only [s199_42, s199_45, s199_46, s199_49, s199_51, s199_52, s199_55, s199_57, s199_59, s199_62, s199_65, s199_67, s199_68, s199_70, s199_71, s199_72, s199_74, s199_75, s199_75i, s199_76, s199_79, s199_80, s199_81, s199_84, s199_85, s199_86, s199_88, s199_89, s199_90, s199_91, s199_93, s199_96, s199_97, s199_99, s199_102, s199_105, s199_106, s199_107, s199_110, s199_111, s199_114, s199_115, s199_116, s199_119, s199_122, s199_125, s199_126, s199_128, s199_131, true_or, or_true, or_false, false_or, or_self, Int32.reduceLT, Int32.reduceLE, Nat.add_zero, Nat.zero_add, Nat.not_lt_zero, not_false_eq_true, not_true_eq_false, and_assoc, kl_q, kl_i, kl_r, kl_n, kl_0, kl_l, cs_0, cs_i, cs_r, cs_n, cs_l, aRf_s, aRf_n, gi_wl, gi_wr, gl_wi, gl_wl, gl_wr, gr_wi, gr_wl, gr_wr, sh_wi, sh_wl, sh_wr, gl_cp, gr_cp, sh_cp, gl_rw, gr_rw, sh_rw, gi_rl, gr_rl, sh_rl, Option.toList_some, Option.toList_none, List.nil_append, List.cons_append, List.append_nil, Option.some.injEq, Prod.mk.injEq, and_true, true_and, and_self, if_true, if_false, reduceCtorEq, Nat.reduceLeDiff, Nat.reduceLT, Nat.reduceAdd, Nat.reduceEqDiff, false_and, and_false, exists_const, exists_eq_left, exists_eq_left', exists_and_left, and_assoc, nltL, nltR, nleL, nleR, neqL, neqR, naL, naR, nmL, nmR, nI_ltI, nI_leI, nI_eq, nI_add, nI_mul, nI_clamp, n0l, n0r, nm1, nm1', nm1l, nm1r, nm1g, nsL, nI_m1, Nat.add_sub_cancel, vpn, vpL, nclL, le32, leLL, leLN, leNL, leNN, inA, nb0, nb1, gi_wi_n, gi_wi_e, gi_rw_n, gi_rw_e, aWi_rw, ifl, ifl_, ifle, ifle_, ifq, ifq_, ifnq, ifnq_, ifnl, ifnl_, ifnle, ifnle_, z399 ok3, f2]
          refine hq _ (b1.trans ((a2.mono (fun a k z => Or.inl z)).trans ((Ag.refl ok).wi (Or.inr ⟨rfl, by omega, by omega⟩)))) ⟨ok, Or.inl ?_⟩
          rw [gi_wi_n (by omega), f2]
theorem m_items {h : aM} (hκ : κ < 3) (hA : 410 ≤ A ∧ A ≤ 412) (hsA : ∀ h, OK h → sh h A = some (100, sz)) (hsz : fr + mK κ ≤ sz) (hsz2 : sz ≤ 24) (tc : TpM h B T) (hp : p ≤ T) (e3 : gi h 399 3 = nI p) (e4 : gi h 399 4 = -1) (hr : itG B T κ (mK κ + 1) p 0 (usK κ) = some r) (hq : ∀ h', Ag (IY A fr κ) h h' → PostP B T A fr κ r h' → Q none h') :
    AW (d + 3) 199 0 [some (.ref 399), some (.int (ckI κ)), some (.ref A), some (.int (nI fr)), some (.int (nI (mK κ))), none, none] [] h Q := by
  have hT := tc.2.1
  have hbb := tc.2.2.2.2
  have m1 := mK_le (κ := κ)
  have hs := sk_le (B := B) hp
  simp (disch := omega) only [s199_0, s199_1, true_or, or_true, or_false, false_or, or_self, Int32.reduceLT, Int32.reduceLE, Nat.add_zero, Nat.zero_add, Nat.not_lt_zero, not_false_eq_true, not_true_eq_false, and_assoc, kl_q, kl_i, kl_r, kl_n, kl_0, kl_l, cs_0, cs_i, cs_r, cs_n, cs_l, aRf_s, aRf_n, gi_wl, gi_wr, gl_wi, gl_wl, gl_wr, gr_wi, gr_wl, gr_wr, sh_wi, sh_wl, sh_wr, gl_cp, gr_cp, sh_cp, gl_rw, gr_rw, sh_rw, gi_rl, gr_rl, sh_rl, Option.toList_some, Option.toList_none, List.nil_append, List.cons_append, List.append_nil, Option.some.injEq, Prod.mk.injEq, and_true, true_and, and_self, if_true, if_false, reduceCtorEq, Nat.reduceLeDiff, Nat.reduceLT, Nat.reduceAdd, Nat.reduceEqDiff, false_and, and_false, exists_const, exists_eq_left, exists_eq_left', exists_and_left, and_assoc, nltL, nltR, nleL, nleR, neqL, neqR, naL, naR, nmL, nmR, nI_ltI, nI_leI, nI_eq, nI_add, nI_mul, nI_clamp, n0l, n0r, nm1, nm1', nm1l, nm1r, nm1g, nsL, nI_m1, Nat.add_sub_cancel, vpn, vpL, nclL, le32, leLL, leLN, leNL, leNN, inA, nb0, nb1, gi_wi_n, gi_wi_e, gi_rw_n, gi_rw_e, aWi_rw, ifl, ifl_, ifle, ifle_, ifq, ifq_, ifnq, ifnq_, ifnl, ifnl_, ifnle, ifnle_]
  refine aLoop (mK κ) (fun j lv h' => lv = [some (.ref 399), some (.int (ckI κ)), some (.ref A), some (.int (nI fr)), some (.int (nI (mK κ))), some (.int (nI j)), none] ∧ Ag (fun a k => a = A ∧ fr ≤ k ∧ k < fr + mK κ) h h' ∧ ∀ k, k < j → gi h' A (fr + k) = nI (usK κ k)) ?_ ?_ 0 _ _ (Nat.zero_le _) ⟨rfl, Ag.refl tc.1, fun k hk => absurd hk (Nat.not_lt_zero _)⟩
  · rintro j lv h' hj ⟨rfl, a1, e1⟩ hk
    have ok := a1.1
    have hsa := hsA h' ok
    have i1 : fr + j < sz := by omega
    have n1 : ¬ mK κ ≤ j := by omega
    rw [s199_3]
    simp (disch := omega) only [s199_5, s199_7, s199_10, s199_11, s199_12, s199_14, s199_15, s199_16, s199_18, s199_21, s199_22, s199_25, true_or, or_true, or_false, false_or, or_self, Int32.reduceLT, Int32.reduceLE, Nat.add_zero, Nat.zero_add, Nat.not_lt_zero, not_false_eq_true, not_true_eq_false, and_assoc, kl_q, kl_i, kl_r, kl_n, kl_0, kl_l, cs_0, cs_i, cs_r, cs_n, cs_l, aRf_s, aRf_n, gi_wl, gi_wr, gl_wi, gl_wl, gl_wr, gr_wi, gr_wl, gr_wr, sh_wi, sh_wl, sh_wr, gl_cp, gr_cp, sh_cp, gl_rw, gr_rw, sh_rw, gi_rl, gr_rl, sh_rl, Option.toList_some, Option.toList_none, List.nil_append, List.cons_append, List.append_nil, Option.some.injEq, Prod.mk.injEq, and_true, true_and, and_self, if_true, if_false, reduceCtorEq, Nat.reduceLeDiff, Nat.reduceLT, Nat.reduceAdd, Nat.reduceEqDiff, false_and, and_false, exists_const, exists_eq_left, exists_eq_left', exists_and_left, and_assoc, nltL, nltR, nleL, nleR, neqL, neqR, naL, naR, nmL, nmR, nI_ltI, nI_leI, nI_eq, nI_add, nI_mul, nI_clamp, n0l, n0r, nm1, nm1', nm1l, nm1r, nm1g, nsL, nI_m1, Nat.add_sub_cancel, vpn, vpL, nclL, le32, leLL, leLN, leNL, leNN, inA, nb0, nb1, gi_wi_n, gi_wi_e, gi_rw_n, gi_rw_e, aWi_rw, ifl, ifl_, ifle, ifle_, ifq, ifq_, ifnq, ifnq_, ifnl, ifnl_, ifnle, ifnle_, n1, m_usual hκ hj, hsa, i1]
    refine ⟨by omega, hk _ _ ⟨rfl, a1.wi ⟨rfl, by omega, by omega⟩, fun k hk2 => ?_⟩⟩
    by_cases hkj : k = j
    · subst hkj
      rw [gi_wi_e]
    · rw [gi_wi_n (by omega)]
      exact e1 k (by omega)
  · rintro lv h' ⟨rfl, a1, e1⟩
    have tc1 := tc.ag a1 (by omega) (by omega)
    have ok := a1.1
    rw [s199_3]
    simp (disch := omega) only [s199_5, s199_7, s199_10, s199_11, s199_12, s199_14, s199_15, s199_16, s199_18, s199_21, s199_22, s199_25, s199_28, s199_29, s199_31, s199_32, s199_33, true_or, or_true, or_false, false_or, or_self, Int32.reduceLT, Int32.reduceLE, Nat.add_zero, Nat.zero_add, Nat.not_lt_zero, not_false_eq_true, not_true_eq_false, and_assoc, kl_q, kl_i, kl_r, kl_n, kl_0, kl_l, cs_0, cs_i, cs_r, cs_n, cs_l, aRf_s, aRf_n, gi_wl, gi_wr, gl_wi, gl_wl, gl_wr, gr_wi, gr_wl, gr_wr, sh_wi, sh_wl, sh_wr, gl_cp, gr_cp, sh_cp, gl_rw, gr_rw, sh_rw, gi_rl, gr_rl, sh_rl, Option.toList_some, Option.toList_none, List.nil_append, List.cons_append, List.append_nil, Option.some.injEq, Prod.mk.injEq, and_true, true_and, and_self, if_true, if_false, reduceCtorEq, Nat.reduceLeDiff, Nat.reduceLT, Nat.reduceAdd, Nat.reduceEqDiff, false_and, and_false, exists_const, exists_eq_left, exists_eq_left', exists_and_left, and_assoc, nltL, nltR, nleL, nleR, neqL, neqR, naL, naR, nmL, nmR, nI_ltI, nI_leI, nI_eq, nI_add, nI_mul, nI_clamp, n0l, n0r, nm1, nm1', nm1l, nm1r, nm1g, nsL, nI_m1, Nat.add_sub_cancel, vpn, vpL, nclL, le32, leLL, leLN, leNL, leNN, inA, nb0, nb1, gi_wi_n, gi_wi_e, gi_rw_n, gi_rw_e, aWi_rw, ifl, ifl_, ifle, ifle_, ifq, ifq_, ifnq, ifnq_, ifnl, ifnl_, ifnle, ifnle_, z399 ok, Nat.le_refl]
    refine m_lookM tc1 hp (show gi h' 399 3 = nI p by rw [a1.2 _ _ (by omega), e3]) (fun h2 a2 f2 => ?_)
    have rc2 : ItM h2 B T (sk B T p) A fr κ (usK κ) := by
      refine ⟨tc1.ag a2 (by omega) (by omega), f2, by rw [a2.2 _ _ (by omega), a1.2 _ _ (by omega), e4], fun k hk => ?_⟩
      rw [a2.2 _ _ (by omega)]
      exact e1 k hk
    simp (disch := omega) only [s199_36, s199_39, true_or, or_true, or_false, false_or, or_self, Int32.reduceLT, Int32.reduceLE, Nat.add_zero, Nat.zero_add, Nat.not_lt_zero, not_false_eq_true, not_true_eq_false, and_assoc, kl_q, kl_i, kl_r, kl_n, kl_0, kl_l, cs_0, cs_i, cs_r, cs_n, cs_l, aRf_s, aRf_n, gi_wl, gi_wr, gl_wi, gl_wl, gl_wr, gr_wi, gr_wl, gr_wr, sh_wi, sh_wl, sh_wr, gl_cp, gr_cp, sh_cp, gl_rw, gr_rw, sh_rw, gi_rl, gr_rl, sh_rl, Option.toList_some, Option.toList_none, List.nil_append, List.cons_append, List.append_nil, Option.some.injEq, Prod.mk.injEq, and_true, true_and, and_self, if_true, if_false, reduceCtorEq, Nat.reduceLeDiff, Nat.reduceLT, Nat.reduceAdd, Nat.reduceEqDiff, false_and, and_false, exists_const, exists_eq_left, exists_eq_left', exists_and_left, and_assoc, nltL, nltR, nleL, nleR, neqL, neqR, naL, naR, nmL, nmR, nI_ltI, nI_leI, nI_eq, nI_add, nI_mul, nI_clamp, n0l, n0r, nm1, nm1', nm1l, nm1r, nm1g, nsL, nI_m1, Nat.add_sub_cancel, vpn, vpL, nclL, le32, leLL, leLN, leNL, leNN, inA, nb0, nb1, gi_wi_n, gi_wi_e, gi_rw_n, gi_rw_e, aWi_rw, ifl, ifl_, ifle, ifle_, ifq, ifq_, ifnq, ifnq_, ifnl, ifnl_, ifnle, ifnle_, m_itemOf hbb hκ]
    exact m_itGo hκ hA hsA hsz hsz2 (mK κ + 1) p 0 (usK κ) h2 hr hp (Nat.two_pow_pos _) rc2 (fun h3 a3 p3 => hq h3 (((a1.mono (fun a k z => Or.inr z)).trans (a2.mono (fun a k z => m3_iy z))).trans a3) p3)
end N3
