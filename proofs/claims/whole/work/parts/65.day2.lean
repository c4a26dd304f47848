-- deps: 64.day
section D2
variable {d : Nat} {g h : aM} {Q : Option Value → aM → Prop} {M F L W N D c nx n T P : Nat} {s : Nat → Int32} {lg ks : Nat → Nat → Int32} {Dk : Nat → Nat}
theorem np_s (st : StM h lg 416 0 s D) (hM : M ≤ 6) (hF : F ≤ 5) (hP : s 29 = nI P) : NowP h M F s (vS s) (dS s) P (s 30) := ⟨fun k hk => ⟨rdM st (by omega), rdM st (by omega)⟩, fun f hf => rdM st (by omega), by rw [rdM st (by omega), hP], rdM st (by omega)⟩
theorem m_pass (it : ITold h M F L W) (il : ILaw h N) (ok : OK h) (st : StM h lg 416 0 s D) (sb : SB M s D) (hP : s 29 = nI P) (P1 : 1 ≤ P) (P5 : P ≤ 5) {ws : List Wd} (hws : ws = rdA (hdG h F s (vS s) (dS s) P (s 30)) M L P (s 30) W) (hq : ∀ h', Ag (fun a k => a = 416 ∨ ScrP a k) h h' → StM h' (lgS lg D M ws) 416 0 (dyS M ws s) (D + 1) → Q none h') : AW (d + 10) 230 0 [some (.ref 399), none] [] h Q := by
  have hM : M ≤ 6 := it.1
  have hM' : M ≤ 10 := by omega
  have hF : F ≤ 5 := it.2.1
  have hF' : F ≤ 10 := by omega
  have hL : L ≤ 30 := it.2.2.1
  have hW : W ≤ 20 := it.2.2.2.1
  have eD := sb.2.2.2.1
  have hD := sb.2.2.2.2
  have sn : SameN h h := (Same.refl ok).n
  have wl : ws.length ≤ 31 := by
    rw [hws]
    exact Nat.le_trans (rd_le _) (by omega)
  simp (disch := omega) only [s230_0, s230_1, s230_4, s230_5, s230_7, s230_8, s230_11, s230_14, s230_15, s230_18, s230_20, s230_21, s230_22, s230_25, s230_26, s230_29, s230_31, s230_32, s230_33, s230_34, s230_35, s230_38, s230_39, s230_40, s230_41, s230_44, s230_45, s230_48, s230_51, s230_52, s230_55, s230_57, s230_60, s230_61, s230_64, s230_66, s230_67, s230_68, s230_71, s230_74, s230_75, s230_78, s230_79, s230_80, s230_83, s230_85, s230_86, s230_87, s230_88, s230_89, s230_90, s230_91, s230_94, s230_96, s230_97, s230_99, s230_102, s230_103, s230_105, s230_108, s230_111, s230_112, s230_115, s230_117, s230_118, s230_119, s230_120, s230_121, s230_122, s230_125, s230_127, s230_128, s230_129, s230_130, s230_131, s230_134, s230_137, s230_138, s230_141, s230_143, s230_144, s230_145, s230_146, s230_147, s230_148, s230_150, s230_151, s230_152, s230_155, s230_157, s230_158, s230_159, s230_160, s230_161, s230_162, s230_165, s230_166, s230_167, s230_170, s230_171, s230_172, s230_175, s230_176, s230_177, s230_178, s230_179, s230_182, s230_183, s230_184, s230_187, s230_188, s230_189, s230_190, s230_191, s230_194, s230_195, s230_196, s230_199, s230_201, s230_202, s230_203, s230_204, s230_205, s230_206, true_or, or_true, or_false, false_or, or_self, Int32.reduceLT, Int32.reduceLE, Nat.add_zero, Nat.zero_add, Nat.not_lt_zero, not_false_eq_true, not_true_eq_false, and_assoc, kl_q, kl_i, kl_r, kl_n, kl_0, kl_l, cs_0, cs_i, cs_r, cs_n, cs_l, aRf_s, aRf_n, gi_wl, gi_wr, gl_wi, gl_wl, gl_wr, gr_wi, gr_wl, gr_wr, sh_wi, sh_wl, sh_wr, gl_cp, gr_cp, sh_cp, gl_rw, gr_rw, sh_rw, gi_rl, gr_rl, sh_rl, Option.toList_some, Option.toList_none, List.nil_append, List.cons_append, List.append_nil, Option.some.injEq, Prod.mk.injEq, and_true, true_and, and_self, if_true, if_false, reduceCtorEq, Nat.reduceLeDiff, Nat.reduceLT, Nat.reduceAdd, Nat.reduceEqDiff, false_and, and_false, exists_const, exists_eq_left, exists_eq_left', exists_and_left, and_assoc, nltL, nltR, nleL, nleR, neqL, neqR, naL, naR, nmL, nmR, nI_ltI, nI_leI, nI_eq, nI_add, nI_mul, nI_clamp, n0l, n0r, nm1, nm1', nm1l, nm1r, nm1g, nsL, nI_m1, Nat.add_sub_cancel, vpn, vpL, nclL, le32, leLL, leLN, leNL, leNN, inA, nb0, nb1, gi_wi_n, gi_wi_e, gi_rw_n, gi_rw_e, aWi_rw, ifl, ifl_, ifle, ifle_, ifq, ifq_, ifnq, ifnq_, ifnl, ifnl_, ifnle, ifnle_, z399 ok]
  refine m_layNowG it il (sb_pb sb hP P1 P5) sn (np_s st hM hF hP) (fun h1 f1 mo => ?_)
  rw [← hws] at mo
  have ok1 := f1.1
  have ag1 : Ag (fun a k => a = 416 ∨ ScrP a k) h h1 := ⟨f1.1, fun a k q => by
    rw [f1.2.2.2 a k]
    rw [Bool.eq_false_iff]
    exact fun z => q (Or.inr (scr_iff.mp (layX_scr a k z)))⟩
  have e416 : ∀ k, gi h1 416 k = gi h 416 k := fun k => f1.2.2.2 _ _ rfl
  have r2 : gi h1 399 25 = nI M := by rw [f1.2.2.2 _ _ rfl, it.2.2.2.2.2.2.1]
  simp (disch := omega) only [s230_0, s230_1, s230_4, s230_5, s230_7, s230_8, s230_11, s230_14, s230_15, s230_18, s230_20, s230_21, s230_22, s230_25, s230_26, s230_29, s230_31, s230_32, s230_33, s230_34, s230_35, s230_38, s230_39, s230_40, s230_41, s230_44, s230_45, s230_48, s230_51, s230_52, s230_55, s230_57, s230_60, s230_61, s230_64, s230_66, s230_67, s230_68, s230_71, s230_74, s230_75, s230_78, s230_79, s230_80, s230_83, s230_85, s230_86, s230_87, s230_88, s230_89, s230_90, s230_91, s230_94, s230_96, s230_97, s230_99, s230_102, s230_103, s230_105, s230_108, s230_111, s230_112, s230_115, s230_117, s230_118, s230_119, s230_120, s230_121, s230_122, s230_125, s230_127, s230_128, s230_129, s230_130, s230_131, s230_134, s230_137, s230_138, s230_141, s230_143, s230_144, s230_145, s230_146, s230_147, s230_148, s230_150, s230_151, s230_152, s230_155, s230_157, s230_158, s230_159, s230_160, s230_161, s230_162, s230_165, s230_166, s230_167, s230_170, s230_171, s230_172, s230_175, s230_176, s230_177, s230_178, s230_179, s230_182, s230_183, s230_184, s230_187, s230_188, s230_189, s230_190, s230_191, s230_194, s230_195, s230_196, s230_199, s230_201, s230_202, s230_203, s230_204, s230_205, s230_206, true_or, or_true, or_false, false_or, or_self, Int32.reduceLT, Int32.reduceLE, Nat.add_zero, Nat.zero_add, Nat.not_lt_zero, not_false_eq_true, not_true_eq_false, and_assoc, kl_q, kl_i, kl_r, kl_n, kl_0, kl_l, cs_0, cs_i, cs_r, cs_n, cs_l, aRf_s, aRf_n, gi_wl, gi_wr, gl_wi, gl_wl, gl_wr, gr_wi, gr_wl, gr_wr, sh_wi, sh_wl, sh_wr, gl_cp, gr_cp, sh_cp, gl_rw, gr_rw, sh_rw, gi_rl, gr_rl, sh_rl, Option.toList_some, Option.toList_none, List.nil_append, List.cons_append, List.append_nil, Option.some.injEq, Prod.mk.injEq, and_true, true_and, and_self, if_true, if_false, reduceCtorEq, Nat.reduceLeDiff, Nat.reduceLT, Nat.reduceAdd, Nat.reduceEqDiff, false_and, and_false, exists_const, exists_eq_left, exists_eq_left', exists_and_left, and_assoc, nltL, nltR, nleL, nleR, neqL, neqR, naL, naR, nmL, nmR, nI_ltI, nI_leI, nI_eq, nI_add, nI_mul, nI_clamp, n0l, n0r, nm1, nm1', nm1l, nm1r, nm1g, nsL, nI_m1, Nat.add_sub_cancel, vpn, vpL, nclL, le32, leLL, leLN, leNL, leNN, inA, nb0, nb1, gi_wi_n, gi_wi_e, gi_rw_n, gi_rw_e, aWi_rw, ifl, ifl_, ifle, ifle_, ifq, ifq_, ifnq, ifnq_, ifnl, ifnl_, ifnle, ifnle_]
  refine aLoop M (fun k lv h' => lv = [some (.ref 399), some (.int (nI k))] ∧ Ag (fun a _ => a = 416) h1 h' ∧ (∀ j, ¬ (18 ≤ j ∧ j < 18 + k) → gi h' 416 j = gi h 416 j) ∧ ∀ j, j < k → gi h' 416 (18 + j) = imin 9999 (s (18 + j) + nI (cnt ws j))) ?_ ?_ 0 _ _ (Nat.zero_le _) ⟨rfl, Ag.refl ok1, fun j _ => e416 j, fun j hj => by omega⟩
  · rintro k lv h' hk ⟨rfl, a1, p1, p2⟩ hk2
    have ok := a1.1
    have e1 : ¬ M ≤ k := by omega
    have k6 : k < 6 := by omega
    have k214 : 18 + k < 214 := by omega
    have r2' : gi h' 399 25 = nI M := by rw [a1.2 _ _ (by omega), r2]
    have e2 : gi h' 416 (18 + k) = s (18 + k) := by rw [p1 _ (by omega), rdM st (by omega)]
    have e3 : gi h' 420 k = nI (cnt ws k) := by rw [a1.2 _ _ (by omega)]; exact mo.2.2.2.2 k k6
    rw [s230_6]
    simp (disch := omega) only [s230_0, s230_1, s230_4, s230_5, s230_7, s230_8, s230_11, s230_14, s230_15, s230_18, s230_20, s230_21, s230_22, s230_25, s230_26, s230_29, s230_31, s230_32, s230_33, s230_34, s230_35, s230_38, s230_39, s230_40, s230_41, s230_44, s230_45, s230_48, s230_51, s230_52, s230_55, s230_57, s230_60, s230_61, s230_64, s230_66, s230_67, s230_68, s230_71, s230_74, s230_75, s230_78, s230_79, s230_80, s230_83, s230_85, s230_86, s230_87, s230_88, s230_89, s230_90, s230_91, s230_94, s230_96, s230_97, s230_99, s230_102, s230_103, s230_105, s230_108, s230_111, s230_112, s230_115, s230_117, s230_118, s230_119, s230_120, s230_121, s230_122, s230_125, s230_127, s230_128, s230_129, s230_130, s230_131, s230_134, s230_137, s230_138, s230_141, s230_143, s230_144, s230_145, s230_146, s230_147, s230_148, s230_150, s230_151, s230_152, s230_155, s230_157, s230_158, s230_159, s230_160, s230_161, s230_162, s230_165, s230_166, s230_167, s230_170, s230_171, s230_172, s230_175, s230_176, s230_177, s230_178, s230_179, s230_182, s230_183, s230_184, s230_187, s230_188, s230_189, s230_190, s230_191, s230_194, s230_195, s230_196, s230_199, s230_201, s230_202, s230_203, s230_204, s230_205, s230_206, true_or, or_true, or_false, false_or, or_self, Int32.reduceLT, Int32.reduceLE, Nat.add_zero, Nat.zero_add, Nat.not_lt_zero, not_false_eq_true, not_true_eq_false, and_assoc, kl_q, kl_i, kl_r, kl_n, kl_0, kl_l, cs_0, cs_i, cs_r, cs_n, cs_l, aRf_s, aRf_n, gi_wl, gi_wr, gl_wi, gl_wl, gl_wr, gr_wi, gr_wl, gr_wr, sh_wi, sh_wl, sh_wr, gl_cp, gr_cp, sh_cp, gl_rw, gr_rw, sh_rw, gi_rl, gr_rl, sh_rl, Option.toList_some, Option.toList_none, List.nil_append, List.cons_append, List.append_nil, Option.some.injEq, Prod.mk.injEq, and_true, true_and, and_self, if_true, if_false, reduceCtorEq, Nat.reduceLeDiff, Nat.reduceLT, Nat.reduceAdd, Nat.reduceEqDiff, false_and, and_false, exists_const, exists_eq_left, exists_eq_left', exists_and_left, and_assoc, nltL, nltR, nleL, nleR, neqL, neqR, naL, naR, nmL, nmR, nI_ltI, nI_leI, nI_eq, nI_add, nI_mul, nI_clamp, n0l, n0r, nm1, nm1', nm1l, nm1r, nm1g, nsL, nI_m1, Nat.add_sub_cancel, vpn, vpL, nclL, le32, leLL, leLN, leNL, leNN, inA, nb0, nb1, gi_wi_n, gi_wi_e, gi_rw_n, gi_rw_e, aWi_rw, ifl, ifl_, ifle, ifle_, ifq, ifq_, ifnq, ifnq_, ifnl, ifnl_, ifnle, ifnle_, z399 ok, z416 ok, z420 ok, r399_27 ok, r399_33 ok, r2', e1, e2, e3, k6, k214, sp_min]
    refine hk2 _ _ ⟨rfl, a1.wi rfl, fun j hj => ?_, fun j hj => ?_⟩
    · rw [gi_wi_n (by omega), p1 j (by omega)]
    · by_cases hjk : j = k
      · subst hjk
        rw [gi_wi_e]
      · rw [gi_wi_n (by omega), p2 j (by omega)]
  · rintro lv h' ⟨rfl, a1, p1, p2⟩
    have ok := a1.1
    have r2' : gi h' 399 25 = nI M := by rw [a1.2 _ _ (by omega), r2]
    have m34 : gi h' 399 34 = nI ws.length := by rw [a1.2 _ _ (by omega), mo.1]
    have m35 : gi h' 399 35 = nI (slp ws) := by rw [a1.2 _ _ (by omega), mo.2.1]
    have m36 : gi h' 399 36 = nb ws M := by rw [a1.2 _ _ (by omega), mo.2.2.1]
    have x31 : gi h' 416 31 = s 31 := by rw [p1 _ (by omega), rdM st (by omega)]
    have x32 : gi h' 416 32 = nI D := by rw [p1 _ (by omega), rdM st (by omega), eD]
    have x33 : gi h' 416 33 = nI (min 60 D) := by
      rw [p1 _ (by omega)]
      have := st.2.1
      rw [Nat.zero_add] at this
      exact this
    obtain ⟨h2, eh2⟩ : ∃ h2, h2 = aWi (aWi h' 416 31 (imin 999 (s 31 + ibc (nb ws M)))) 416 32 (nI (D + 1)) := ⟨_, rfl⟩
    have a2 : Ag (fun a k => a = 416 ∨ ScrP a k) h h2 := by
      rw [eh2]
      exact ((ag1.trans (a1.mono (fun a k z => Or.inl z))).wi (Or.inl rfl)).wi (Or.inl rfl)
    have e : ∀ k, ¬ (18 ≤ k ∧ k < 18 + M) → ¬ k = 31 → ¬ k = 32 → dyS M ws s k = s k := fun k q1 q2 q3 => by
      unfold dyS
      rw [if_neg q1, if_neg q2, if_neg q3]
    have lo : ∀ k, k < 33 → gi h2 416 k = dyS M ws s k := by
      intro k hk
      by_cases h32 : k = 32
      · subst h32
        rw [eh2, gi_wi_e]
        unfold dyS
        rw [if_neg (by omega), if_neg (by omega), if_pos rfl, eD]
        exact (nI_add D 1).symm
      · by_cases h31 : k = 31
        · subst h31
          rw [eh2, gi_wi_n (by omega), gi_wi_e]
          unfold dyS
          rw [if_neg (by omega), if_pos rfl]
        · rw [eh2, gi_wi_n (by omega), gi_wi_n (by omega)]
          by_cases h18 : 18 ≤ k ∧ k < 18 + M
          · have := p2 (k - 18) (by omega)
            rw [show 18 + (k - 18) = k by omega] at this
            rw [this]
            unfold dyS
            rw [if_pos h18]
          · rw [p1 k h18, e k h18 h31 h32, rdM st hk]
    have hi : ∀ k, 33 ≤ k → gi h2 416 k = gi h 416 k := fun k hk => by
      rw [eh2, gi_wi_n (by omega), gi_wi_n (by omega), p1 k (by omega)]
    have t2 : ∀ a k, ¬ a = 416 → gi h2 a k = gi h' a k := fun a k q => by
      rw [eh2, gi_wi_n (by omega), gi_wi_n (by omega)]
    have ok2 : OK h2 := a2.1
    have fin : ∀ h3 q, q = min 60 (D + 1) - 1 → Ag (fun a k => a = 416 ∨ ScrP a k) h h3 → (∀ a k, ¬ a = 416 → gi h3 a k = gi h' a k) → (∀ k, k < 33 → gi h3 416 k = dyS M ws s k) → gi h3 416 33 = nI q → (∀ e, e < D → D + 1 ≤ e + 60 → ∀ w, w < 3 → gi h3 416 (34 + 3 * (e - (D + 1 - 60)) + w) = lg e w) → ∀ z, AW (d + 10) 230 148 [some (.ref 399), z] [] h3 Q := by
      intro h3 q hq2 a3 t3 l3 x3 g3 z
      have ok := a3.1
      have m34 : gi h3 399 34 = nI ws.length := by rw [t3 _ _ (by omega), m34]
      have m35 : gi h3 399 35 = nI (slp ws) := by rw [t3 _ _ (by omega), m35]
      have m36 : gi h3 399 36 = nb ws M := by rw [t3 _ _ (by omega), m36]
      have i1 : 34 + 3 * q < 214 := by omega
      have i2 : 34 + 3 * q + 1 < 214 := by omega
      have i3 : 34 + 3 * q + 2 < 214 := by omega
      simp (disch := omega) only [s230_0, s230_1, s230_4, s230_5, s230_7, s230_8, s230_11, s230_14, s230_15, s230_18, s230_20, s230_21, s230_22, s230_25, s230_26, s230_29, s230_31, s230_32, s230_33, s230_34, s230_35, s230_38, s230_39, s230_40, s230_41, s230_44, s230_45, s230_48, s230_51, s230_52, s230_55, s230_57, s230_60, s230_61, s230_64, s230_66, s230_67, s230_68, s230_71, s230_74, s230_75, s230_78, s230_79, s230_80, s230_83, s230_85, s230_86, s230_87, s230_88, s230_89, s230_90, s230_91, s230_94, s230_96, s230_97, s230_99, s230_102, s230_103, s230_105, s230_108, s230_111, s230_112, s230_115, s230_117, s230_118, s230_119, s230_120, s230_121, s230_122, s230_125, s230_127, s230_128, s230_129, s230_130, s230_131, s230_134, s230_137, s230_138, s230_141, s230_143, s230_144, s230_145, s230_146, s230_147, s230_148, s230_150, s230_151, s230_152, s230_155, s230_157, s230_158, s230_159, s230_160, s230_161, s230_162, s230_165, s230_166, s230_167, s230_170, s230_171, s230_172, s230_175, s230_176, s230_177, s230_178, s230_179, s230_182, s230_183, s230_184, s230_187, s230_188, s230_189, s230_190, s230_191, s230_194, s230_195, s230_196, s230_199, s230_201, s230_202, s230_203, s230_204, s230_205, s230_206, true_or, or_true, or_false, false_or, or_self, Int32.reduceLT, Int32.reduceLE, Nat.add_zero, Nat.zero_add, Nat.not_lt_zero, not_false_eq_true, not_true_eq_false, and_assoc, kl_q, kl_i, kl_r, kl_n, kl_0, kl_l, cs_0, cs_i, cs_r, cs_n, cs_l, aRf_s, aRf_n, gi_wl, gi_wr, gl_wi, gl_wl, gl_wr, gr_wi, gr_wl, gr_wr, sh_wi, sh_wl, sh_wr, gl_cp, gr_cp, sh_cp, gl_rw, gr_rw, sh_rw, gi_rl, gr_rl, sh_rl, Option.toList_some, Option.toList_none, List.nil_append, List.cons_append, List.append_nil, Option.some.injEq, Prod.mk.injEq, and_true, true_and, and_self, if_true, if_false, reduceCtorEq, Nat.reduceLeDiff, Nat.reduceLT, Nat.reduceAdd, Nat.reduceEqDiff, false_and, and_false, exists_const, exists_eq_left, exists_eq_left', exists_and_left, and_assoc, nltL, nltR, nleL, nleR, neqL, neqR, naL, naR, nmL, nmR, nI_ltI, nI_leI, nI_eq, nI_add, nI_mul, nI_clamp, n0l, n0r, nm1, nm1', nm1l, nm1r, nm1g, nsL, nI_m1, Nat.add_sub_cancel, vpn, vpL, nclL, le32, leLL, leLN, leNL, leNN, inA, nb0, nb1, gi_wi_n, gi_wi_e, gi_rw_n, gi_rw_e, aWi_rw, ifl, ifl_, ifle, ifle_, ifq, ifq_, ifnq, ifnq_, ifnl, ifnl_, ifnle, ifnle_, z399 ok, z416 ok, r399_27 ok, x3, m34, m35, m36, i1, i2, i3]
      refine hq _ ((((a3.wi (Or.inl rfl)).wi (Or.inl rfl)).wi (Or.inl rfl)).wi (Or.inl rfl)) ⟨fun k hk => ?_, ?_, fun e e1 e2 w hw => ?_⟩
      · rw [Nat.zero_add, gi_wi_n (by omega), gi_wi_n (by omega), gi_wi_n (by omega), gi_wi_n (by omega), l3 k hk]
      · rw [Nat.zero_add, gi_wi_e]
        congr 1
        omega
      · rw [Nat.zero_add, gi_wi_n (by omega)]
        unfold lgS lnS
        by_cases heD : e = D
        · subst heD
          rw [if_pos rfl]
          have hw3 : w = 0 ∨ w = 1 ∨ w = 2 := by omega
          rcases hw3 with rfl | rfl | rfl
          · rw [gi_wi_n (by omega), gi_wi_n (by omega), show 34 + 3 * (e - (e + 1 - 60)) + 0 = 34 + 3 * q by omega, gi_wi_e, if_pos rfl]
          · rw [gi_wi_n (by omega), show 34 + 3 * (e - (e + 1 - 60)) + 1 = 34 + 3 * q + 1 by omega, gi_wi_e, if_neg (by omega), if_pos rfl]
          · rw [show 34 + 3 * (e - (e + 1 - 60)) + 2 = 34 + 3 * q + 2 by omega, gi_wi_e, if_neg (by omega), if_neg (by omega)]
        · rw [if_neg heD, gi_wi_n (by omega), gi_wi_n (by omega), gi_wi_n (by omega)]
          exact g3 e (by omega) (by omega) w hw
    rw [s230_6]
    by_cases h60 : D < 60
    · have em : min 60 D = D := by omega
      rw [em] at x33
      simp (disch := omega) only [s230_7, s230_8, s230_11, s230_14, s230_15, s230_18, s230_20, s230_21, s230_22, s230_25, s230_26, s230_29, s230_31, s230_32, s230_33, s230_34, s230_35, s230_38, s230_39, s230_40, s230_41, s230_44, s230_45, s230_48, s230_51, s230_52, s230_55, s230_57, s230_60, s230_61, s230_64, s230_66, s230_67, s230_68, s230_71, s230_74, s230_75, s230_78, s230_79, s230_80, s230_83, s230_85, s230_86, s230_87, s230_88, s230_89, s230_90, s230_91, s230_94, s230_96, s230_97, s230_99, s230_102, s230_103, s230_105, s230_108, s230_111, s230_112, s230_115, s230_117, s230_118, s230_119, s230_120, s230_121, s230_122, s230_125, s230_127, s230_128, s230_129, s230_130, s230_131, s230_134, s230_137, s230_138, s230_141, s230_143, s230_144, s230_145, s230_146, s230_147, true_or, or_true, or_false, false_or, or_self, Int32.reduceLT, Int32.reduceLE, Nat.add_zero, Nat.zero_add, Nat.not_lt_zero, not_false_eq_true, not_true_eq_false, and_assoc, kl_q, kl_i, kl_r, kl_n, kl_0, kl_l, cs_0, cs_i, cs_r, cs_n, cs_l, aRf_s, aRf_n, gi_wl, gi_wr, gl_wi, gl_wl, gl_wr, gr_wi, gr_wl, gr_wr, sh_wi, sh_wl, sh_wr, gl_cp, gr_cp, sh_cp, gl_rw, gr_rw, sh_rw, gi_rl, gr_rl, sh_rl, Option.toList_some, Option.toList_none, List.nil_append, List.cons_append, List.append_nil, Option.some.injEq, Prod.mk.injEq, and_true, true_and, and_self, if_true, if_false, reduceCtorEq, Nat.reduceLeDiff, Nat.reduceLT, Nat.reduceAdd, Nat.reduceEqDiff, false_and, and_false, exists_const, exists_eq_left, exists_eq_left', exists_and_left, and_assoc, nltL, nltR, nleL, nleR, neqL, neqR, naL, naR, nmL, nmR, nI_ltI, nI_leI, nI_eq, nI_add, nI_mul, nI_clamp, n0l, n0r, nm1, nm1', nm1l, nm1r, nm1g, nsL, nI_m1, Nat.add_sub_cancel, vpn, vpL, nclL, le32, leLL, leLN, leNL, leNN, inA, nb0, nb1, gi_wi_n, gi_wi_e, gi_rw_n, gi_rw_e, aWi_rw, ifl, ifl_, ifle, ifle_, ifq, ifq_, ifnq, ifnq_, ifnl, ifnl_, ifnle, ifnle_, z399 ok, z416 ok, r399_27 ok, r2', Nat.le_refl, x31, x32, x33, m36, sp_bits, sp_min]
      rw [← eh2]
      refine fin _ D (by omega) a2 t2 lo (by rw [hi _ (by omega), ← p1 _ (by omega), x33]) (fun e e1 e2 w hw => ?_) _
      rw [hi _ (by omega)]
      have := st.2.2 e e1 (by omega) w hw
      rw [Nat.zero_add] at this
      rw [← this]
      congr 1
      omega
    · have em : min 60 D = 60 := by omega
      rw [em] at x33
      simp (disch := omega) only [s230_7, s230_8, s230_11, s230_14, s230_15, s230_18, s230_20, s230_21, s230_22, s230_25, s230_26, s230_29, s230_31, s230_32, s230_33, s230_34, s230_35, s230_38, s230_39, s230_40, s230_41, s230_44, s230_45, s230_48, s230_51, s230_52, s230_55, s230_57, s230_60, s230_61, s230_64, s230_66, s230_67, s230_68, s230_71, s230_74, s230_75, s230_78, s230_79, s230_80, s230_83, s230_85, s230_86, s230_87, s230_88, s230_89, s230_90, s230_91, s230_94, s230_96, s230_97, s230_99, s230_102, s230_103, s230_105, s230_108, s230_111, s230_112, s230_115, s230_117, s230_118, s230_119, s230_120, s230_121, s230_122, s230_125, s230_127, s230_128, s230_129, s230_130, s230_131, s230_134, s230_137, s230_138, s230_141, s230_143, s230_144, s230_145, s230_146, s230_147, true_or, or_true, or_false, false_or, or_self, Int32.reduceLT, Int32.reduceLE, Nat.add_zero, Nat.zero_add, Nat.not_lt_zero, not_false_eq_true, not_true_eq_false, and_assoc, kl_q, kl_i, kl_r, kl_n, kl_0, kl_l, cs_0, cs_i, cs_r, cs_n, cs_l, aRf_s, aRf_n, gi_wl, gi_wr, gl_wi, gl_wl, gl_wr, gr_wi, gr_wl, gr_wr, sh_wi, sh_wl, sh_wr, gl_cp, gr_cp, sh_cp, gl_rw, gr_rw, sh_rw, gi_rl, gr_rl, sh_rl, Option.toList_some, Option.toList_none, List.nil_append, List.cons_append, List.append_nil, Option.some.injEq, Prod.mk.injEq, and_true, true_and, and_self, if_true, if_false, reduceCtorEq, Nat.reduceLeDiff, Nat.reduceLT, Nat.reduceAdd, Nat.reduceEqDiff, false_and, and_false, exists_const, exists_eq_left, exists_eq_left', exists_and_left, and_assoc, nltL, nltR, nleL, nleR, neqL, neqR, naL, naR, nmL, nmR, nI_ltI, nI_leI, nI_eq, nI_add, nI_mul, nI_clamp, n0l, n0r, nm1, nm1', nm1l, nm1r, nm1g, nsL, nI_m1, Nat.add_sub_cancel, vpn, vpL, nclL, le32, leLL, leLN, leNL, leNN, inA, nb0, nb1, gi_wi_n, gi_wi_e, gi_rw_n, gi_rw_e, aWi_rw, ifl, ifl_, ifle, ifle_, ifq, ifq_, ifnq, ifnq_, ifnl, ifnl_, ifnle, ifnle_, z399 ok, z416 ok, r399_27 ok, r2', Nat.le_refl, x31, x32, x33, m36, sp_bits, sp_min]
      rw [← eh2]
      refine aLoop 180 (fun k lv h3 => 3 ≤ k ∧ lv = [some (.ref 399), some (.int (nI k))] ∧ Ag (fun a _ => a = 416) h2 h3 ∧ (∀ j, ¬ (34 ≤ j ∧ j + 3 < 34 + k) → gi h3 416 j = gi h2 416 j) ∧ ∀ j, 34 ≤ j → j + 3 < 34 + k → gi h3 416 j = gi h 416 (j + 3)) ?_ ?_ 3 _ _ (by omega) ⟨Nat.le_refl _, rfl, Ag.refl ok2, fun j _ => rfl, fun j j1 j2 => by omega⟩
      · rintro k lv h3 hk ⟨k3, rfl, a3, q1, q2⟩ hk2
        have ok := a3.1
        have e1 : ¬ 180 ≤ k := by omega
        have i1 : 34 + k < 214 := by omega
        have i2 : 34 + k - 3 < 214 := by omega
        have e2 : gi h3 416 (34 + k) = gi h 416 (34 + k) := by rw [q1 _ (by omega), hi _ (by omega)]
        rw [s230_104]
        simp (disch := omega) only [s230_0, s230_1, s230_4, s230_5, s230_7, s230_8, s230_11, s230_14, s230_15, s230_18, s230_20, s230_21, s230_22, s230_25, s230_26, s230_29, s230_31, s230_32, s230_33, s230_34, s230_35, s230_38, s230_39, s230_40, s230_41, s230_44, s230_45, s230_48, s230_51, s230_52, s230_55, s230_57, s230_60, s230_61, s230_64, s230_66, s230_67, s230_68, s230_71, s230_74, s230_75, s230_78, s230_79, s230_80, s230_83, s230_85, s230_86, s230_87, s230_88, s230_89, s230_90, s230_91, s230_94, s230_96, s230_97, s230_99, s230_102, s230_103, s230_105, s230_108, s230_111, s230_112, s230_115, s230_117, s230_118, s230_119, s230_120, s230_121, s230_122, s230_125, s230_127, s230_128, s230_129, s230_130, s230_131, s230_134, s230_137, s230_138, s230_141, s230_143, s230_144, s230_145, s230_146, s230_147, s230_148, s230_150, s230_151, s230_152, s230_155, s230_157, s230_158, s230_159, s230_160, s230_161, s230_162, s230_165, s230_166, s230_167, s230_170, s230_171, s230_172, s230_175, s230_176, s230_177, s230_178, s230_179, s230_182, s230_183, s230_184, s230_187, s230_188, s230_189, s230_190, s230_191, s230_194, s230_195, s230_196, s230_199, s230_201, s230_202, s230_203, s230_204, s230_205, s230_206, true_or, or_true, or_false, false_or, or_self, Int32.reduceLT, Int32.reduceLE, Nat.add_zero, Nat.zero_add, Nat.not_lt_zero, not_false_eq_true, not_true_eq_false, and_assoc, kl_q, kl_i, kl_r, kl_n, kl_0, kl_l, cs_0, cs_i, cs_r, cs_n, cs_l, aRf_s, aRf_n, gi_wl, gi_wr, gl_wi, gl_wl, gl_wr, gr_wi, gr_wl, gr_wr, sh_wi, sh_wl, sh_wr, gl_cp, gr_cp, sh_cp, gl_rw, gr_rw, sh_rw, gi_rl, gr_rl, sh_rl, Option.toList_some, Option.toList_none, List.nil_append, List.cons_append, List.append_nil, Option.some.injEq, Prod.mk.injEq, and_true, true_and, and_self, if_true, if_false, reduceCtorEq, Nat.reduceLeDiff, Nat.reduceLT, Nat.reduceAdd, Nat.reduceEqDiff, false_and, and_false, exists_const, exists_eq_left, exists_eq_left', exists_and_left, and_assoc, nltL, nltR, nleL, nleR, neqL, neqR, naL, naR, nmL, nmR, nI_ltI, nI_leI, nI_eq, nI_add, nI_mul, nI_clamp, n0l, n0r, nm1, nm1', nm1l, nm1r, nm1g, nsL, nI_m1, Nat.add_sub_cancel, vpn, vpL, nclL, le32, leLL, leLN, leNL, leNN, inA, nb0, nb1, gi_wi_n, gi_wi_e, gi_rw_n, gi_rw_e, aWi_rw, ifl, ifl_, ifle, ifle_, ifq, ifq_, ifnq, ifnq_, ifnl, ifnl_, ifnle, ifnle_, z399 ok, z416 ok, r399_27 ok, e1, e2, i1, i2]
        refine hk2 _ _ ⟨by omega, rfl, a3.wi rfl, fun j hj => ?_, fun j j1 j2 => ?_⟩
        · rw [gi_wi_n (by omega), q1 j (by omega)]
        · by_cases hjk : j = 34 + k - 3
          · have : j + 3 = 34 + k := by omega
            rw [hjk, gi_wi_e, ← hjk, this]
          · rw [gi_wi_n (by omega), q2 j j1 (by omega)]
      · rintro lv h3 ⟨k3, rfl, a3, q1, q2⟩
        have ok := a3.1
        have y33 : gi h3 416 33 = nI 60 := by rw [q1 _ (by omega), hi _ (by omega), ← p1 _ (by omega), x33]
        rw [s230_104]
        simp (disch := omega) only [s230_105, s230_108, s230_111, s230_112, s230_115, s230_117, s230_118, s230_119, s230_120, s230_121, s230_122, s230_125, s230_127, s230_128, s230_129, s230_130, s230_131, s230_134, s230_137, s230_138, s230_141, s230_143, s230_144, s230_145, s230_146, s230_147, true_or, or_true, or_false, false_or, or_self, Int32.reduceLT, Int32.reduceLE, Nat.add_zero, Nat.zero_add, Nat.not_lt_zero, not_false_eq_true, not_true_eq_false, and_assoc, kl_q, kl_i, kl_r, kl_n, kl_0, kl_l, cs_0, cs_i, cs_r, cs_n, cs_l, aRf_s, aRf_n, gi_wl, gi_wr, gl_wi, gl_wl, gl_wr, gr_wi, gr_wl, gr_wr, sh_wi, sh_wl, sh_wr, gl_cp, gr_cp, sh_cp, gl_rw, gr_rw, sh_rw, gi_rl, gr_rl, sh_rl, Option.toList_some, Option.toList_none, List.nil_append, List.cons_append, List.append_nil, Option.some.injEq, Prod.mk.injEq, and_true, true_and, and_self, if_true, if_false, reduceCtorEq, Nat.reduceLeDiff, Nat.reduceLT, Nat.reduceAdd, Nat.reduceEqDiff, false_and, and_false, exists_const, exists_eq_left, exists_eq_left', exists_and_left, and_assoc, nltL, nltR, nleL, nleR, neqL, neqR, naL, naR, nmL, nmR, nI_ltI, nI_leI, nI_eq, nI_add, nI_mul, nI_clamp, n0l, n0r, nm1, nm1', nm1l, nm1r, nm1g, nsL, nI_m1, Nat.add_sub_cancel, vpn, vpL, nclL, le32, leLL, leLN, leNL, leNN, inA, nb0, nb1, gi_wi_n, gi_wi_e, gi_rw_n, gi_rw_e, aWi_rw, ifl, ifl_, ifle, ifle_, ifq, ifq_, ifnq, ifnq_, ifnl, ifnl_, ifnle, ifnle_, z399 ok, z416 ok, r399_27 ok, Nat.le_refl, y33]
        refine fin _ 59 (by omega) ((a2.trans (a3.mono (fun a k z => Or.inl z))).wi (Or.inl rfl)) (fun a k q => by rw [gi_wi_n (by omega), a3.2 a k q, t2 a k q]) (fun k hk => by rw [gi_wi_n (by omega), q1 _ (by omega), lo k hk]) gi_wi_e (fun e e1 e2 w hw => ?_) _
        rw [gi_wi_n (by omega), q2 _ (by omega) (by omega)]
        have := st.2.2 e e1 (by omega) w hw
        rw [Nat.zero_add] at this
        rw [← this]
        congr 1
        omega
end D2
