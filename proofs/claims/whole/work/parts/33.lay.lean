-- deps: 32.ride
/-! ===== RIDES of the reference ===== -/
def MoP (h : aM) (M : Nat) (ws : List Wd) : Prop := gi h 399 34 = nI ws.length ∧ gi h 399 35 = nI (slp ws) ∧ gi h 399 36 = nb ws M ∧ (∀ i w, ws[i]? = some w → gi h 418 i = nI w.1 ∧ gi h 419 i = nI w.2.1) ∧ ∀ m, m < 6 → gi h 420 m = nI (cnt ws m)
def layX (a k : Nat) : Bool := LSc a || (Nat.ble 418 a && Nat.ble a 420) || (a == 399 && (k == 34 || k == 35 || k == 36))
theorem layX_scr : ∀ a k, layX a k = true → Scr a k = true := by
  intro a k h
  unfold layX at h
  rw [Bool.or_eq_true, Bool.or_eq_true] at h
  rcases h with (h | h) | h
  · exact lsc_scr h
  · simp [Scr, h]
  · simp only [Bool.or_eq_true, Bool.and_eq_true, beq_iff_eq] at h
    rcases h.2 with (h2 | h2) | h2 <;> simp [Scr, h.1, h2]
theorem NowP.fr {X : Nat → Nat → Bool} {h h' : aM} {M F : Nat} {st vo dp : Nat → Int32} {P : Nat} {mud : Int32} (n : NowP h M F st vo dp P mud) (s : Fr X h h') (x : ∀ k, X 416 k = false) : NowP h' M F st vo dp P mud := by
  obtain ⟨n1, n2, n3, n4⟩ := n
  refine ⟨fun k hk => ?_, fun f hf => ?_, ?_, ?_⟩
  · rw [s.2.2.2 _ _ (x _), s.2.2.2 _ _ (x _)]
    exact n1 k hk
  · rw [s.2.2.2 _ _ (x _)]
    exact n2 f hf
  · rw [s.2.2.2 _ _ (x _), n3]
  · rw [s.2.2.2 _ _ (x _), n4]
theorem sm_pos {x : Int32} (h : sm x) : 0 < x ↔ ¬ x = 0 := by
  unfold sm at h
  have e0 : (0 : Int32).toInt = 0 := rfl
  rw [lti, eqi, e0]
  omega
theorem m_lay {d : Nat} {g h : aM} {Q : Option Value → aM → Prop} {M F L W N R : Nat} {st vo dp : Nat → Int32} {P : Nat} {mud : Int32} (it : ITold g M F L W) (il : ILaw g N) (pb : PB M st vo P mud) (sn : SameN g h) (np : NowP h M F st vo dp P mud) (hR : R ≤ 31)
    (hq : ∀ h', Fr layX h h' → MoP h' M (rdA (hdG g F st vo dp P mud) M L P mud R) → Q none h') : AW (d + 7) 213 0 [some (.ref 399), some (.int (nI R)), none, none, none, none] [] h Q := by
  have ok := sn.1
  have hM : M ≤ 6 := it.1
  have hL : L ≤ 30 := it.2.2.1
  obtain ⟨pb1, P1, P5, pb4⟩ := id pb
  simp (disch := omega) only [s213_0, s213_1, s213_2, s213_5, s213_6, s213_7, s213_10, s213_11, s213_12, s213_15, s213_16, s213_18, s213_20, s213_23, s213_24, s213_27, s213_28, s213_29, s213_30, s213_33, s213_36, s213_37, s213_39, s213_40, s213_43, s213_44, s213_45, s213_48, s213_49, s213_52, s213_53, s213_56, s213_57, s213_58, s213_61, s213_62, s213_63, s213_64, s213_67, s213_68, s213_69, s213_70, s213_73, s213_74, s213_77, s213_78, s213_81, s213_83, s213_84, s213_87, s213_88, s213_91, s213_92, s213_94, s213_96, s213_99, s213_100, s213_101, s213_102, s213_103, s213_106, s213_107, s213_110, s213_111, s213_113, s213_114, s213_114i, s213_115, s213_118, s213_120, s213_123, s213_124, s213_127, s213_128, s213_129, s213_132, s213_133, s213_136, s213_137, s213_140, s213_142, s213_143, s213_144, s213_147, s213_148, s213_151, s213_152, s213_153, s213_154, s213_154i, s213_155, s213_158, s213_159, s213_160, s213_163, s213_164, s213_167, s213_169, s213_170, s213_171, s213_172, s213_173, s213_174, s213_175, s213_175i, s213_176, s213_179, s213_180, s213_182, s213_183, s213_184, s213_187, s213_188, s213_189, s213_192, s213_194, s213_195, s213_196, s213_197, s213_200, true_or, or_true, or_false, false_or, or_self, Int32.reduceLT, Int32.reduceLE, Nat.add_zero, Nat.zero_add, Nat.not_lt_zero, not_false_eq_true, not_true_eq_false, and_assoc, kl_q, kl_i, kl_r, kl_n, kl_0, kl_l, cs_0, cs_i, cs_r, cs_n, cs_l, aRf_s, aRf_n, gi_wl, gi_wr, gl_wi, gl_wl, gl_wr, gr_wi, gr_wl, gr_wr, sh_wi, sh_wl, sh_wr, gl_cp, gr_cp, sh_cp, gl_rw, gr_rw, sh_rw, gi_rl, gr_rl, sh_rl, Option.toList_some, Option.toList_none, List.nil_append, List.cons_append, List.append_nil, Option.some.injEq, Prod.mk.injEq, and_true, true_and, and_self, if_true, if_false, reduceCtorEq, Nat.reduceLeDiff, Nat.reduceLT, Nat.reduceAdd, Nat.reduceEqDiff, false_and, and_false, exists_const, exists_eq_left, exists_eq_left', exists_and_left, and_assoc, nltL, nltR, nleL, nleR, neqL, neqR, naL, naR, nmL, nmR, nI_ltI, nI_leI, nI_eq, nI_add, nI_mul, nI_clamp, n0l, n0r, nm1, nm1', nm1l, nm1r, nm1g, nsL, nI_m1, Nat.add_sub_cancel, vpn, vpL, nclL, le32, leLL, leLN, leNL, leNN, inA, nb0, nb1, gi_wi_n, gi_wi_e, gi_rw_n, gi_rw_e, aWi_rw, z399 ok]
  generalize h00 : aWi (aWi (aWi h 399 34 0) 399 35 0) 399 36 0 = h0
  have f0 : Fr layX h h0 := by
    rw [← h00]
    exact (((Fr.refl ok).wi rfl).wi rfl).wi rfl
  have z0 : gi h0 399 34 = 0 ∧ gi h0 399 35 = 0 ∧ gi h0 399 36 = 0 := by
    rw [← h00]
    simp [gi_wi]
  have ok0 := f0.1
  refine aLoop 6 (fun j lv h' => lv = [some (.ref 399), some (.int (nI R)), some (.int (nI j)), none, none, none] ∧ h' = aRw h0 420 (fillF (gi h0 420) j 0)) ?_ ?_ 0 _ _ (Nat.zero_le _) ⟨rfl, ?_⟩
  · rintro j lv h' hj ⟨rfl, rfl⟩ hk
    have ok := ok0
    have e1 : ¬ 6 ≤ j := by omega
    rw [s213_17]
    simp (disch := omega) only [s213_0, s213_1, s213_2, s213_5, s213_6, s213_7, s213_10, s213_11, s213_12, s213_15, s213_16, s213_18, s213_20, s213_23, s213_24, s213_27, s213_28, s213_29, s213_30, s213_33, s213_36, s213_37, s213_39, s213_40, s213_43, s213_44, s213_45, s213_48, s213_49, s213_52, s213_53, s213_56, s213_57, s213_58, s213_61, s213_62, s213_63, s213_64, s213_67, s213_68, s213_69, s213_70, s213_73, s213_74, s213_77, s213_78, s213_81, s213_83, s213_84, s213_87, s213_88, s213_91, s213_92, s213_94, s213_96, s213_99, s213_100, s213_101, s213_102, s213_103, s213_106, s213_107, s213_110, s213_111, s213_113, s213_114, s213_114i, s213_115, s213_118, s213_120, s213_123, s213_124, s213_127, s213_128, s213_129, s213_132, s213_133, s213_136, s213_137, s213_140, s213_142, s213_143, s213_144, s213_147, s213_148, s213_151, s213_152, s213_153, s213_154, s213_154i, s213_155, s213_158, s213_159, s213_160, s213_163, s213_164, s213_167, s213_169, s213_170, s213_171, s213_172, s213_173, s213_174, s213_175, s213_175i, s213_176, s213_179, s213_180, s213_182, s213_183, s213_184, s213_187, s213_188, s213_189, s213_192, s213_194, s213_195, s213_196, s213_197, s213_200, true_or, or_true, or_false, false_or, or_self, Int32.reduceLT, Int32.reduceLE, Nat.add_zero, Nat.zero_add, Nat.not_lt_zero, not_false_eq_true, not_true_eq_false, and_assoc, kl_q, kl_i, kl_r, kl_n, kl_0, kl_l, cs_0, cs_i, cs_r, cs_n, cs_l, aRf_s, aRf_n, gi_wl, gi_wr, gl_wi, gl_wl, gl_wr, gr_wi, gr_wl, gr_wr, sh_wi, sh_wl, sh_wr, gl_cp, gr_cp, sh_cp, gl_rw, gr_rw, sh_rw, gi_rl, gr_rl, sh_rl, Option.toList_some, Option.toList_none, List.nil_append, List.cons_append, List.append_nil, Option.some.injEq, Prod.mk.injEq, and_true, true_and, and_self, if_true, if_false, reduceCtorEq, Nat.reduceLeDiff, Nat.reduceLT, Nat.reduceAdd, Nat.reduceEqDiff, false_and, and_false, exists_const, exists_eq_left, exists_eq_left', exists_and_left, and_assoc, nltL, nltR, nleL, nleR, neqL, neqR, naL, naR, nmL, nmR, nI_ltI, nI_leI, nI_eq, nI_add, nI_mul, nI_clamp, n0l, n0r, nm1, nm1', nm1l, nm1r, nm1g, nsL, nI_m1, Nat.add_sub_cancel, vpn, vpL, nclL, le32, leLL, leLN, leNL, leNN, inA, nb0, nb1, gi_wi_n, gi_wi_e, gi_rw_n, gi_rw_e, aWi_rw, z399 ok, z420 ok, r399_33 ok, e1, hj]
    refine hk _ _ ⟨rfl, ?_⟩
    congr 1
    funext i
    simp only [fillF]
    by_cases h1 : i = j
    · rw [if_pos h1, if_pos (by omega)]
    · rw [if_neg h1]
      by_cases h2 : i < j
      · rw [if_pos h2, if_pos (by omega)]
      · rw [if_neg h2, if_neg (by omega)]
  · rintro lv h' ⟨rfl, rfl⟩
    rw [s213_17]
    simp (disch := omega) only [s213_0, s213_1, s213_2, s213_5, s213_6, s213_7, s213_10, s213_11, s213_12, s213_15, s213_16, s213_18, s213_20, s213_23, s213_24, s213_27, s213_28, s213_29, s213_30, s213_33, s213_36, s213_37, s213_39, s213_40, s213_43, s213_44, s213_45, s213_48, s213_49, s213_52, s213_53, s213_56, s213_57, s213_58, s213_61, s213_62, s213_63, s213_64, s213_67, s213_68, s213_69, s213_70, s213_73, s213_74, s213_77, s213_78, s213_81, s213_83, s213_84, s213_87, s213_88, s213_91, s213_92, s213_94, s213_96, s213_99, s213_100, s213_101, s213_102, s213_103, s213_106, s213_107, s213_110, s213_111, s213_113, s213_114, s213_114i, s213_115, s213_118, s213_120, s213_123, s213_124, s213_127, s213_128, s213_129, s213_132, s213_133, s213_136, s213_137, s213_140, s213_142, s213_143, s213_144, s213_147, s213_148, s213_151, s213_152, s213_153, s213_154, s213_154i, s213_155, s213_158, s213_159, s213_160, s213_163, s213_164, s213_167, s213_169, s213_170, s213_171, s213_172, s213_173, s213_174, s213_175, s213_175i, s213_176, s213_179, s213_180, s213_182, s213_183, s213_184, s213_187, s213_188, s213_189, s213_192, s213_194, s213_195, s213_196, s213_197, s213_200, true_or, or_true, or_false, false_or, or_self, Int32.reduceLT, Int32.reduceLE, Nat.add_zero, Nat.zero_add, Nat.not_lt_zero, not_false_eq_true, not_true_eq_false, and_assoc, kl_q, kl_i, kl_r, kl_n, kl_0, kl_l, cs_0, cs_i, cs_r, cs_n, cs_l, aRf_s, aRf_n, gi_wl, gi_wr, gl_wi, gl_wl, gl_wr, gr_wi, gr_wl, gr_wr, sh_wi, sh_wl, sh_wr, gl_cp, gr_cp, sh_cp, gl_rw, gr_rw, sh_rw, gi_rl, gr_rl, sh_rl, Option.toList_some, Option.toList_none, List.nil_append, List.cons_append, List.append_nil, Option.some.injEq, Prod.mk.injEq, and_true, true_and, and_self, if_true, if_false, reduceCtorEq, Nat.reduceLeDiff, Nat.reduceLT, Nat.reduceAdd, Nat.reduceEqDiff, false_and, and_false, exists_const, exists_eq_left, exists_eq_left', exists_and_left, and_assoc, nltL, nltR, nleL, nleR, neqL, neqR, naL, naR, nmL, nmR, nI_ltI, nI_leI, nI_eq, nI_add, nI_mul, nI_clamp, n0l, n0r, nm1, nm1', nm1l, nm1r, nm1g, nsL, nI_m1, Nat.add_sub_cancel, vpn, vpL, nclL, le32, leLL, leLN, leNL, leNN, inA, nb0, nb1, gi_wi_n, gi_wi_e, gi_rw_n, gi_rw_e, aWi_rw, Nat.le_refl]
    refine aLoop (L / P + 1) (fun n lv h' => ∃ w1 w2 w3, lv = [some (.ref 399), some (.int (nI R)), some (.int (nI (n * P))), w1, w2, w3] ∧ Fr layX h h' ∧ MoP h' M (rd (hdG g F st vo dp P mud) M P mud R n)) ?_ ?_ 0 _ _ (Nat.zero_le _) ⟨none, none, none, by rw [Nat.zero_mul]; rfl, f0.rw (fun k => rfl), ?_⟩
    · rintro n lv h' hn ⟨w1, w2, w3, rfl, f1, g1, g2, g2b, g3, g4⟩ hk
      have sn' := sn.fr f1 (fun a k q => Or.inl (layX_scr a k q))
      have np' := np.fr f1 (fun k => rfl)
      have ok := f1.1
      have nL : n * P ≤ L := (Nat.le_div_iff_mul_le P1).mp (by omega)
      have nn : n ≤ 30 := Nat.le_trans (Nat.le_mul_of_pos_right n P1) (Nat.le_trans nL hL)
      have e3 : ¬ L < n * P := by omega
      have hlen := rd_le (f := hdG g F st vo dp P mud) (M := M) (P := P) (mud := mud) (R := R) n
      have hlen2 := rd_len (f := hdG g F st vo dp P mud) (M := M) (P := P) (mud := mud) (R := R) n
      have c1 : gi h' 413 0 = nI L := by rw [sn'.2 _ _ rfl (by decide), it.2.2.2.2.2.2.2.2.2.2.1]
      have c2 : gi h' 399 25 = nI M := by rw [sn'.2 _ _ rfl (by decide), it.2.2.2.2.2.2.1]
      have hk' : ∀ w1 w2 w3 h2, Fr layX h h2 → MoP h2 M (rd (hdG g F st vo dp P mud) M P mud R (n + 1)) → AW (d + 7) 213 38 [some (.ref 399), some (.int (nI R)), some (.int (nI (n * P + P))), w1, w2, w3] [] h2 Q := fun w1 w2 w3 h2 a b => hk _ _ ⟨w1, w2, w3, by rw [Nat.succ_mul], a, b⟩
      clear hk
      rw [s213_38]
      by_cases hr : (rd (hdG g F st vo dp P mud) M P mud R n).length < R
      · have hr' : ¬ R ≤ (rd (hdG g F st vo dp P mud) M P mud R n).length := by omega
        rw [rd, if_pos hr] at hk'
        simp (disch := omega) only [s213_0, s213_1, s213_2, s213_5, s213_6, s213_7, s213_10, s213_11, s213_12, s213_15, s213_16, s213_18, s213_20, s213_23, s213_24, s213_27, s213_28, s213_29, s213_30, s213_33, s213_36, s213_37, s213_39, s213_40, s213_43, s213_44, s213_45, s213_48, s213_49, s213_52, s213_53, s213_56, s213_57, s213_58, s213_61, s213_62, s213_63, s213_64, s213_67, s213_68, s213_69, s213_70, s213_73, s213_74, s213_77, s213_78, s213_81, s213_83, s213_84, s213_87, s213_88, s213_91, s213_92, s213_94, s213_96, s213_99, s213_100, s213_101, s213_102, s213_103, s213_106, s213_107, s213_110, s213_111, s213_113, s213_114, s213_114i, s213_115, s213_118, s213_120, s213_123, s213_124, s213_127, s213_128, s213_129, s213_132, s213_133, s213_136, s213_137, s213_140, s213_142, s213_143, s213_144, s213_147, s213_148, s213_151, s213_152, s213_153, s213_154, s213_154i, s213_155, s213_158, s213_159, s213_160, s213_163, s213_164, s213_167, s213_169, s213_170, s213_171, s213_172, s213_173, s213_174, s213_175, s213_175i, s213_176, s213_179, s213_180, s213_182, s213_183, s213_184, s213_187, s213_188, s213_189, s213_192, s213_194, s213_195, s213_196, s213_197, s213_200, true_or, or_true, or_false, false_or, or_self, Int32.reduceLT, Int32.reduceLE, Nat.add_zero, Nat.zero_add, Nat.not_lt_zero, not_false_eq_true, not_true_eq_false, and_assoc, kl_q, kl_i, kl_r, kl_n, kl_0, kl_l, cs_0, cs_i, cs_r, cs_n, cs_l, aRf_s, aRf_n, gi_wl, gi_wr, gl_wi, gl_wl, gl_wr, gr_wi, gr_wl, gr_wr, sh_wi, sh_wl, sh_wr, gl_cp, gr_cp, sh_cp, gl_rw, gr_rw, sh_rw, gi_rl, gr_rl, sh_rl, Option.toList_some, Option.toList_none, List.nil_append, List.cons_append, List.append_nil, Option.some.injEq, Prod.mk.injEq, and_true, true_and, and_self, if_true, if_false, reduceCtorEq, Nat.reduceLeDiff, Nat.reduceLT, Nat.reduceAdd, Nat.reduceEqDiff, false_and, and_false, exists_const, exists_eq_left, exists_eq_left', exists_and_left, and_assoc, nltL, nltR, nleL, nleR, neqL, neqR, naL, naR, nmL, nmR, nI_ltI, nI_leI, nI_eq, nI_add, nI_mul, nI_clamp, n0l, n0r, nm1, nm1', nm1l, nm1r, nm1g, nsL, nI_m1, Nat.add_sub_cancel, vpn, vpL, nclL, le32, leLL, leLN, leNL, leNN, inA, nb0, nb1, gi_wi_n, gi_wi_e, gi_rw_n, gi_rw_e, aWi_rw, z399 ok, z413 ok, r399_22 ok, c1, e3, g1, hr']
        refine m_ldst it il pb sn' np' (by omega) (fun h2 s2 => ?_)
        have f2 : Fr layX h h2 := f1.trans (s2.fr (fun a k q => by simp [layX, q]))
        have sn2 := sn'.sml s2
        have np2 := np'.sml s2
        have ok := s2.1
        have p3 := np2.2.2.1
        have p4 := np2.2.2.2
        have mo2 : MoP h2 M (rd (hdG g F st vo dp P mud) M P mud R n) := by
          refine ⟨?_, ?_, ?_, fun i w hw => ?_, fun m hm => ?_⟩
          · rw [s2.2.2.2 _ _ rfl, g1]
          · rw [s2.2.2.2 _ _ rfl, g2]
          · rw [s2.2.2.2 _ _ rfl, g2b]
          · rw [s2.2.2.2 _ _ rfl, s2.2.2.2 _ _ rfl]
            exact g3 i w hw
          · rw [s2.2.2.2 _ _ rfl, g4 m hm]
        cases hls : (ls (fun m => hdG g F st vo dp P mud m (n * P)) M).1 with
        | none =>
          have ew : wdAt (hdG g F st vo dp P mud) M mud (n * P) = none := by
            unfold wdAt
            rw [hls]
          rw [ew] at hk'
          simp only [Option.toList_none, List.append_nil] at hk'
          simp (disch := omega) only [s213_0, s213_1, s213_2, s213_5, s213_6, s213_7, s213_10, s213_11, s213_12, s213_15, s213_16, s213_18, s213_20, s213_23, s213_24, s213_27, s213_28, s213_29, s213_30, s213_33, s213_36, s213_37, s213_39, s213_40, s213_43, s213_44, s213_45, s213_48, s213_49, s213_52, s213_53, s213_56, s213_57, s213_58, s213_61, s213_62, s213_63, s213_64, s213_67, s213_68, s213_69, s213_70, s213_73, s213_74, s213_77, s213_78, s213_81, s213_83, s213_84, s213_87, s213_88, s213_91, s213_92, s213_94, s213_96, s213_99, s213_100, s213_101, s213_102, s213_103, s213_106, s213_107, s213_110, s213_111, s213_113, s213_114, s213_114i, s213_115, s213_118, s213_120, s213_123, s213_124, s213_127, s213_128, s213_129, s213_132, s213_133, s213_136, s213_137, s213_140, s213_142, s213_143, s213_144, s213_147, s213_148, s213_151, s213_152, s213_153, s213_154, s213_154i, s213_155, s213_158, s213_159, s213_160, s213_163, s213_164, s213_167, s213_169, s213_170, s213_171, s213_172, s213_173, s213_174, s213_175, s213_175i, s213_176, s213_179, s213_180, s213_182, s213_183, s213_184, s213_187, s213_188, s213_189, s213_192, s213_194, s213_195, s213_196, s213_197, s213_200, true_or, or_true, or_false, false_or, or_self, Int32.reduceLT, Int32.reduceLE, Nat.add_zero, Nat.zero_add, Nat.not_lt_zero, not_false_eq_true, not_true_eq_false, and_assoc, kl_q, kl_i, kl_r, kl_n, kl_0, kl_l, cs_0, cs_i, cs_r, cs_n, cs_l, aRf_s, aRf_n, gi_wl, gi_wr, gl_wi, gl_wl, gl_wr, gr_wi, gr_wl, gr_wr, sh_wi, sh_wl, sh_wr, gl_cp, gr_cp, sh_cp, gl_rw, gr_rw, sh_rw, gi_rl, gr_rl, sh_rl, Option.toList_some, Option.toList_none, List.nil_append, List.cons_append, List.append_nil, Option.some.injEq, Prod.mk.injEq, and_true, true_and, and_self, if_true, if_false, reduceCtorEq, Nat.reduceLeDiff, Nat.reduceLT, Nat.reduceAdd, Nat.reduceEqDiff, false_and, and_false, exists_const, exists_eq_left, exists_eq_left', exists_and_left, and_assoc, nltL, nltR, nleL, nleR, neqL, neqR, naL, naR, nmL, nmR, nI_ltI, nI_leI, nI_eq, nI_add, nI_mul, nI_clamp, n0l, n0r, nm1, nm1', nm1l, nm1r, nm1g, nsL, nI_m1, Nat.add_sub_cancel, vpn, vpL, nclL, le32, leLL, leLN, leNL, leNN, inA, nb0, nb1, gi_wi_n, gi_wi_e, gi_rw_n, gi_rw_e, aWi_rw, z399 ok, z416 ok, r399_27 ok, p3, oI]
          exact hk' _ _ _ _ f2 mo2
        | some k =>
          have kM := ls_lt hls
          simp (disch := omega) only [s213_0, s213_1, s213_2, s213_5, s213_6, s213_7, s213_10, s213_11, s213_12, s213_15, s213_16, s213_18, s213_20, s213_23, s213_24, s213_27, s213_28, s213_29, s213_30, s213_33, s213_36, s213_37, s213_39, s213_40, s213_43, s213_44, s213_45, s213_48, s213_49, s213_52, s213_53, s213_56, s213_57, s213_58, s213_61, s213_62, s213_63, s213_64, s213_67, s213_68, s213_69, s213_70, s213_73, s213_74, s213_77, s213_78, s213_81, s213_83, s213_84, s213_87, s213_88, s213_91, s213_92, s213_94, s213_96, s213_99, s213_100, s213_101, s213_102, s213_103, s213_106, s213_107, s213_110, s213_111, s213_113, s213_114, s213_114i, s213_115, s213_118, s213_120, s213_123, s213_124, s213_127, s213_128, s213_129, s213_132, s213_133, s213_136, s213_137, s213_140, s213_142, s213_143, s213_144, s213_147, s213_148, s213_151, s213_152, s213_153, s213_154, s213_154i, s213_155, s213_158, s213_159, s213_160, s213_163, s213_164, s213_167, s213_169, s213_170, s213_171, s213_172, s213_173, s213_174, s213_175, s213_175i, s213_176, s213_179, s213_180, s213_182, s213_183, s213_184, s213_187, s213_188, s213_189, s213_192, s213_194, s213_195, s213_196, s213_197, s213_200, true_or, or_true, or_false, false_or, or_self, Int32.reduceLT, Int32.reduceLE, Nat.add_zero, Nat.zero_add, Nat.not_lt_zero, not_false_eq_true, not_true_eq_false, and_assoc, kl_q, kl_i, kl_r, kl_n, kl_0, kl_l, cs_0, cs_i, cs_r, cs_n, cs_l, aRf_s, aRf_n, gi_wl, gi_wr, gl_wi, gl_wl, gl_wr, gr_wi, gr_wl, gr_wr, sh_wi, sh_wl, sh_wr, gl_cp, gr_cp, sh_cp, gl_rw, gr_rw, sh_rw, gi_rl, gr_rl, sh_rl, Option.toList_some, Option.toList_none, List.nil_append, List.cons_append, List.append_nil, Option.some.injEq, Prod.mk.injEq, and_true, true_and, and_self, if_true, if_false, reduceCtorEq, Nat.reduceLeDiff, Nat.reduceLT, Nat.reduceAdd, Nat.reduceEqDiff, false_and, and_false, exists_const, exists_eq_left, exists_eq_left', exists_and_left, and_assoc, nltL, nltR, nleL, nleR, neqL, neqR, naL, naR, nmL, nmR, nI_ltI, nI_leI, nI_eq, nI_add, nI_mul, nI_clamp, n0l, n0r, nm1, nm1', nm1l, nm1r, nm1g, nsL, nI_m1, Nat.add_sub_cancel, vpn, vpL, nclL, le32, leLL, leLN, leNL, leNN, inA, nb0, nb1, gi_wi_n, gi_wi_e, gi_rw_n, gi_rw_e, aWi_rw, z399 ok, z416 ok, r399_27 ok, p3, oI]
          refine m_heard it il pb sn2 np2 kM (by omega) (fun h3 s3 => ?_)
          have f3 : Fr layX h h3 := f2.trans (s3.fr (fun a k q => by simp [layX, q]))
          have np3 := np2.sml s3
          have sn3 := sn2.sml s3
          have ok := s3.1
          have p3 := np3.2.2.1
          have p4 := np3.2.2.2
          have c2 : gi h3 399 25 = nI M := by rw [sn3.2 _ _ rfl (by decide), it.2.2.2.2.2.2.1]
          obtain ⟨g1, g2, g2b, g3, g4⟩ : MoP h3 M (rd (hdG g F st vo dp P mud) M P mud R n) := by
            obtain ⟨g1, g2, g2b, g3, g4⟩ := mo2
            refine ⟨?_, ?_, ?_, fun i w hw => ?_, fun m hm => ?_⟩
            · rw [s3.2.2.2 _ _ rfl, g1]
            · rw [s3.2.2.2 _ _ rfl, g2]
            · rw [s3.2.2.2 _ _ rfl, g2b]
            · rw [s3.2.2.2 _ _ rfl, s3.2.2.2 _ _ rfl]
              exact g3 i w hw
            · rw [s3.2.2.2 _ _ rfl, g4 m hm]
          clear mo2
          have ewd : wdAt (hdG g F st vo dp P mud) M mud (n * P) = if ¬ mud = 0 ∧ hdG g F st vo dp P mud k (n * P) ≤ 2 then some (if k + 1 < M then k + 1 else 0, n * P, true) else some (k, n * P, false) := by
            unfold wdAt
            rw [hls]
          have tail : ∀ (w1 w2 : Option Value) (k' : Nat) (sl : Bool), k' < M → wdAt (hdG g F st vo dp P mud) M mud (n * P) = some (k', n * P, sl) → AW (d + 7) 213 113 [some (.ref 399), some (.int (nI R)), some (.int (nI (n * P))), w1, some (.int (bI sl)), some (.int (nI k'))] [] h3 Q := by
            intro w1 w2 k' sl kM' ew
            rw [ew] at hk'
            simp only [Option.toList_some] at hk'
            have k6 : k' < 6 := by omega
            have el : (rd (hdG g F st vo dp P mud) M P mud R n).length < 31 := by omega
            have hsl : slp (rd (hdG g F st vo dp P mud) M P mud R n ++ [(k', n * P, sl)]) = slp (rd (hdG g F st vo dp P mud) M P mud R n) + (if sl = true then 1 else 0) := slp_app _ _
            generalize rd (hdG g F st vo dp P mud) M P mud R n = ws at *
            have fin : ∀ h4, h4 = aWi (aWi (aWi (aWi (aWi (aWi h3 399 35 (nI (slp (ws ++ [(k', n * P, sl)])))) 418 ws.length (nI k')) 419 ws.length (nI (n * P))) 399 34 (nI (ws.length + 1))) 420 k' (nI (cnt ws k' + 1))) 399 36 (nb ws M ||| bitOf k') → AW (d + 7) 213 38 [some (.ref 399), some (.int (nI R)), some (.int (nI (n * P + P))), w1, some (.int (bI sl)), some (.int (nI k'))] [] h4 Q := by
              intro h4 e4
              refine hk' _ _ _ _ ?_ ⟨?_, ?_, ?_, ?_, ?_⟩
              · rw [e4]
                exact (((((f3.wi rfl).wi rfl).wi rfl).wi rfl).wi rfl).wi rfl
              · rw [e4]
                simp [gi_wi]
              · rw [e4]
                simp [gi_wi]
              · rw [e4, nb_app (w := (k', n * P, sl)) kM']
                simp [gi_wi]
              · intro i w hw
                rw [e4]
                rcases getapp hw with ⟨rfl, rfl⟩ | ⟨hi, hw⟩
                · simp [gi_wi]
                · obtain ⟨q1, q2⟩ := g3 i w hw
                  rw [← q1, ← q2]
                  have : ¬ i = ws.length := by omega
                  simp [gi_wi, this]
              · intro m hm
                rw [e4, cnt_app]
                by_cases hmk : k' = m
                · subst hmk
                  rw [if_pos rfl]
                  simp [gi_wi]
                · rw [if_neg hmk, ← g4 m hm]
                  have : ¬ m = k' := fun e => hmk e.symm
                  simp [gi_wi, this]
            have g4k := g4 k' k6
            cases sl
            · simp (disch := omega) only [s213_0, s213_1, s213_2, s213_5, s213_6, s213_7, s213_10, s213_11, s213_12, s213_15, s213_16, s213_18, s213_20, s213_23, s213_24, s213_27, s213_28, s213_29, s213_30, s213_33, s213_36, s213_37, s213_39, s213_40, s213_43, s213_44, s213_45, s213_48, s213_49, s213_52, s213_53, s213_56, s213_57, s213_58, s213_61, s213_62, s213_63, s213_64, s213_67, s213_68, s213_69, s213_70, s213_73, s213_74, s213_77, s213_78, s213_81, s213_83, s213_84, s213_87, s213_88, s213_91, s213_92, s213_94, s213_96, s213_99, s213_100, s213_101, s213_102, s213_103, s213_106, s213_107, s213_110, s213_111, s213_113, s213_114, s213_114i, s213_115, s213_118, s213_120, s213_123, s213_124, s213_127, s213_128, s213_129, s213_132, s213_133, s213_136, s213_137, s213_140, s213_142, s213_143, s213_144, s213_147, s213_148, s213_151, s213_152, s213_153, s213_154, s213_154i, s213_155, s213_158, s213_159, s213_160, s213_163, s213_164, s213_167, s213_169, s213_170, s213_171, s213_172, s213_173, s213_174, s213_175, s213_175i, s213_176, s213_179, s213_180, s213_182, s213_183, s213_184, s213_187, s213_188, s213_189, s213_192, s213_194, s213_195, s213_196, s213_197, s213_200, true_or, or_true, or_false, false_or, or_self, Int32.reduceLT, Int32.reduceLE, Nat.add_zero, Nat.zero_add, Nat.not_lt_zero, not_false_eq_true, not_true_eq_false, and_assoc, kl_q, kl_i, kl_r, kl_n, kl_0, kl_l, cs_0, cs_i, cs_r, cs_n, cs_l, aRf_s, aRf_n, gi_wl, gi_wr, gl_wi, gl_wl, gl_wr, gr_wi, gr_wl, gr_wr, sh_wi, sh_wl, sh_wr, gl_cp, gr_cp, sh_cp, gl_rw, gr_rw, sh_rw, gi_rl, gr_rl, sh_rl, Option.toList_some, Option.toList_none, List.nil_append, List.cons_append, List.append_nil, Option.some.injEq, Prod.mk.injEq, and_true, true_and, and_self, if_true, if_false, reduceCtorEq, Nat.reduceLeDiff, Nat.reduceLT, Nat.reduceAdd, Nat.reduceEqDiff, false_and, and_false, exists_const, exists_eq_left, exists_eq_left', exists_and_left, and_assoc, nltL, nltR, nleL, nleR, neqL, neqR, naL, naR, nmL, nmR, nI_ltI, nI_leI, nI_eq, nI_add, nI_mul, nI_clamp, n0l, n0r, nm1, nm1', nm1l, nm1r, nm1g, nsL, nI_m1, Nat.add_sub_cancel, vpn, vpL, nclL, le32, leLL, leLN, leNL, leNN, inA, nb0, nb1, gi_wi_n, gi_wi_e, gi_rw_n, gi_rw_e, aWi_rw, z399 ok, z416 ok, z418 ok, z419 ok, z420 ok, r399_27 ok, r399_31 ok, r399_32 ok, r399_33 ok, p3, g1, g2, g2b, g4k, el, k6, bI]
              exact fin _ (by rw [hsl]; rfl)
            · simp (disch := omega) only [s213_0, s213_1, s213_2, s213_5, s213_6, s213_7, s213_10, s213_11, s213_12, s213_15, s213_16, s213_18, s213_20, s213_23, s213_24, s213_27, s213_28, s213_29, s213_30, s213_33, s213_36, s213_37, s213_39, s213_40, s213_43, s213_44, s213_45, s213_48, s213_49, s213_52, s213_53, s213_56, s213_57, s213_58, s213_61, s213_62, s213_63, s213_64, s213_67, s213_68, s213_69, s213_70, s213_73, s213_74, s213_77, s213_78, s213_81, s213_83, s213_84, s213_87, s213_88, s213_91, s213_92, s213_94, s213_96, s213_99, s213_100, s213_101, s213_102, s213_103, s213_106, s213_107, s213_110, s213_111, s213_113, s213_114, s213_114i, s213_115, s213_118, s213_120, s213_123, s213_124, s213_127, s213_128, s213_129, s213_132, s213_133, s213_136, s213_137, s213_140, s213_142, s213_143, s213_144, s213_147, s213_148, s213_151, s213_152, s213_153, s213_154, s213_154i, s213_155, s213_158, s213_159, s213_160, s213_163, s213_164, s213_167, s213_169, s213_170, s213_171, s213_172, s213_173, s213_174, s213_175, s213_175i, s213_176, s213_179, s213_180, s213_182, s213_183, s213_184, s213_187, s213_188, s213_189, s213_192, s213_194, s213_195, s213_196, s213_197, s213_200, true_or, or_true, or_false, false_or, or_self, Int32.reduceLT, Int32.reduceLE, Nat.add_zero, Nat.zero_add, Nat.not_lt_zero, not_false_eq_true, not_true_eq_false, and_assoc, kl_q, kl_i, kl_r, kl_n, kl_0, kl_l, cs_0, cs_i, cs_r, cs_n, cs_l, aRf_s, aRf_n, gi_wl, gi_wr, gl_wi, gl_wl, gl_wr, gr_wi, gr_wl, gr_wr, sh_wi, sh_wl, sh_wr, gl_cp, gr_cp, sh_cp, gl_rw, gr_rw, sh_rw, gi_rl, gr_rl, sh_rl, Option.toList_some, Option.toList_none, List.nil_append, List.cons_append, List.append_nil, Option.some.injEq, Prod.mk.injEq, and_true, true_and, and_self, if_true, if_false, reduceCtorEq, Nat.reduceLeDiff, Nat.reduceLT, Nat.reduceAdd, Nat.reduceEqDiff, false_and, and_false, exists_const, exists_eq_left, exists_eq_left', exists_and_left, and_assoc, nltL, nltR, nleL, nleR, neqL, neqR, naL, naR, nmL, nmR, nI_ltI, nI_leI, nI_eq, nI_add, nI_mul, nI_clamp, n0l, n0r, nm1, nm1', nm1l, nm1r, nm1g, nsL, nI_m1, Nat.add_sub_cancel, vpn, vpL, nclL, le32, leLL, leLN, leNL, leNN, inA, nb0, nb1, gi_wi_n, gi_wi_e, gi_rw_n, gi_rw_e, aWi_rw, z399 ok, z416 ok, z418 ok, z419 ok, z420 ok, r399_27 ok, r399_31 ok, r399_32 ok, r399_33 ok, p3, g1, g2, g2b, g4k, el, k6, bI]
              exact fin _ (by rw [hsl]; rfl)
          simp (disch := omega) only [s213_0, s213_1, s213_2, s213_5, s213_6, s213_7, s213_10, s213_11, s213_12, s213_15, s213_16, s213_18, s213_20, s213_23, s213_24, s213_27, s213_28, s213_29, s213_30, s213_33, s213_36, s213_37, s213_39, s213_40, s213_43, s213_44, s213_45, s213_48, s213_49, s213_52, s213_53, s213_56, s213_57, s213_58, s213_61, s213_62, s213_63, s213_64, s213_67, s213_68, s213_69, s213_70, s213_73, s213_74, s213_77, s213_78, s213_81, s213_83, s213_84, s213_87, s213_88, s213_91, s213_92, s213_94, s213_96, s213_99, s213_100, s213_101, s213_102, s213_103, s213_106, s213_107, s213_110, s213_111, true_or, or_true, or_false, false_or, or_self, Int32.reduceLT, Int32.reduceLE, Nat.add_zero, Nat.zero_add, Nat.not_lt_zero, not_false_eq_true, not_true_eq_false, and_assoc, kl_q, kl_i, kl_r, kl_n, kl_0, kl_l, cs_0, cs_i, cs_r, cs_n, cs_l, aRf_s, aRf_n, gi_wl, gi_wr, gl_wi, gl_wl, gl_wr, gr_wi, gr_wl, gr_wr, sh_wi, sh_wl, sh_wr, gl_cp, gr_cp, sh_cp, gl_rw, gr_rw, sh_rw, gi_rl, gr_rl, sh_rl, Option.toList_some, Option.toList_none, List.nil_append, List.cons_append, List.append_nil, Option.some.injEq, Prod.mk.injEq, and_true, true_and, and_self, if_true, if_false, reduceCtorEq, Nat.reduceLeDiff, Nat.reduceLT, Nat.reduceAdd, Nat.reduceEqDiff, false_and, and_false, exists_const, exists_eq_left, exists_eq_left', exists_and_left, and_assoc, nltL, nltR, nleL, nleR, neqL, neqR, naL, naR, nmL, nmR, nI_ltI, nI_leI, nI_eq, nI_add, nI_mul, nI_clamp, n0l, n0r, nm1, nm1', nm1l, nm1r, nm1g, nsL, nI_m1, Nat.add_sub_cancel, vpn, vpL, nclL, le32, leLL, leLN, leNL, leNN, inA, nb0, nb1, gi_wi_n, gi_wi_e, gi_rw_n, gi_rw_e, aWi_rw, z399 ok, z416 ok, r399_27 ok, p4, c2, nI_rem]
          by_cases h2f : 2 < hdG g F st vo dp P mud k (n * P)
          · rw [if_pos h2f]
            rw [if_neg (fun q => Int32.not_le.mpr h2f q.2)] at ewd
            exact tail _ none k false kM ewd
          · rw [if_neg h2f]
            have hmp := sm_pos pb4
            by_cases hmu : mud = 0
            · rw [if_pos (Int32.not_lt.mp (fun q => hmp.mp q hmu))]
              rw [if_neg (fun q => q.1 hmu)] at ewd
              exact tail _ none k false kM ewd
            · rw [if_neg (Int32.not_le.mpr (hmp.mpr hmu))]
              rw [if_pos ⟨hmu, Int32.not_lt.mp h2f⟩] at ewd
              refine ⟨by omega, ?_⟩
              by_cases hkk : k + 1 < M
              · rw [if_pos hkk] at ewd
                rw [Nat.mod_eq_of_lt hkk]
                exact tail _ none (k + 1) true hkk ewd
              · rw [if_neg hkk] at ewd
                rw [show k + 1 = M by omega, Nat.mod_self]
                exact tail _ none 0 true (by omega) ewd
      · simp (disch := omega) only [s213_0, s213_1, s213_2, s213_5, s213_6, s213_7, s213_10, s213_11, s213_12, s213_15, s213_16, s213_18, s213_20, s213_23, s213_24, s213_27, s213_28, s213_29, s213_30, s213_33, s213_36, s213_37, s213_39, s213_40, s213_43, s213_44, s213_45, s213_48, s213_49, s213_52, s213_53, s213_56, s213_57, s213_58, s213_61, s213_62, s213_63, s213_64, s213_67, s213_68, s213_69, s213_70, s213_73, s213_74, s213_77, s213_78, s213_81, s213_83, s213_84, s213_87, s213_88, s213_91, s213_92, s213_94, s213_96, s213_99, s213_100, s213_101, s213_102, s213_103, s213_106, s213_107, s213_110, s213_111, s213_113, s213_114, s213_114i, s213_115, s213_118, s213_120, s213_123, s213_124, s213_127, s213_128, s213_129, s213_132, s213_133, s213_136, s213_137, s213_140, s213_142, s213_143, s213_144, s213_147, s213_148, s213_151, s213_152, s213_153, s213_154, s213_154i, s213_155, s213_158, s213_159, s213_160, s213_163, s213_164, s213_167, s213_169, s213_170, s213_171, s213_172, s213_173, s213_174, s213_175, s213_175i, s213_176, s213_179, s213_180, s213_182, s213_183, s213_184, s213_187, s213_188, s213_189, s213_192, s213_194, s213_195, s213_196, s213_197, s213_200, true_or, or_true, or_false, false_or, or_self, Int32.reduceLT, Int32.reduceLE, Nat.add_zero, Nat.zero_add, Nat.not_lt_zero, not_false_eq_true, not_true_eq_false, and_assoc, kl_q, kl_i, kl_r, kl_n, kl_0, kl_l, cs_0, cs_i, cs_r, cs_n, cs_l, aRf_s, aRf_n, gi_wl, gi_wr, gl_wi, gl_wl, gl_wr, gr_wi, gr_wl, gr_wr, sh_wi, sh_wl, sh_wr, gl_cp, gr_cp, sh_cp, gl_rw, gr_rw, sh_rw, gi_rl, gr_rl, sh_rl, Option.toList_some, Option.toList_none, List.nil_append, List.cons_append, List.append_nil, Option.some.injEq, Prod.mk.injEq, and_true, true_and, and_self, if_true, if_false, reduceCtorEq, Nat.reduceLeDiff, Nat.reduceLT, Nat.reduceAdd, Nat.reduceEqDiff, false_and, and_false, exists_const, exists_eq_left, exists_eq_left', exists_and_left, and_assoc, nltL, nltR, nleL, nleR, neqL, neqR, naL, naR, nmL, nmR, nI_ltI, nI_leI, nI_eq, nI_add, nI_mul, nI_clamp, n0l, n0r, nm1, nm1', nm1l, nm1r, nm1g, nsL, nI_m1, Nat.add_sub_cancel, vpn, vpL, nclL, le32, leLL, leLN, leNL, leNN, inA, nb0, nb1, gi_wi_n, gi_wi_e, gi_rw_n, gi_rw_e, aWi_rw, z399 ok, z413 ok, r399_22 ok, c1, e3, g1]
        rw [if_pos (by omega)]
        refine hq _ f1 ?_
        have := rd_stop (f := hdG g F st vo dp P mud) (M := M) (P := P) (mud := mud) (R := R) (n := n) (by omega) (L / P + 1 - n)
        rw [rdA, show L / P + 1 = n + (L / P + 1 - n) by omega, this]
        exact ⟨g1, g2, g2b, g3, g4⟩
    · rintro lv h' ⟨w1, w2, w3, rfl, f1, g1⟩
      have sn' := sn.fr f1 (fun a k q => Or.inl (layX_scr a k q))
      have ok := f1.1
      have c1 : gi h' 413 0 = nI L := by rw [sn'.2 _ _ rfl (by decide), it.2.2.2.2.2.2.2.2.2.2.1]
      have e3 : L < (L / P + 1) * P := Nat.lt_of_not_le (fun q => by have := (Nat.le_div_iff_mul_le P1).mpr q; omega)
      have e4 : (L / P + 1) * P ≤ L + P := by rw [Nat.succ_mul]; have := Nat.div_mul_le_self L P; omega
      rw [s213_38]
      simp (disch := omega) only [s213_0, s213_1, s213_2, s213_5, s213_6, s213_7, s213_10, s213_11, s213_12, s213_15, s213_16, s213_18, s213_20, s213_23, s213_24, s213_27, s213_28, s213_29, s213_30, s213_33, s213_36, s213_37, s213_39, s213_40, s213_43, s213_44, s213_45, s213_48, s213_49, s213_52, s213_53, s213_56, s213_57, s213_58, s213_61, s213_62, s213_63, s213_64, s213_67, s213_68, s213_69, s213_70, s213_73, s213_74, s213_77, s213_78, s213_81, s213_83, s213_84, s213_87, s213_88, s213_91, s213_92, s213_94, s213_96, s213_99, s213_100, s213_101, s213_102, s213_103, s213_106, s213_107, s213_110, s213_111, s213_113, s213_114, s213_114i, s213_115, s213_118, s213_120, s213_123, s213_124, s213_127, s213_128, s213_129, s213_132, s213_133, s213_136, s213_137, s213_140, s213_142, s213_143, s213_144, s213_147, s213_148, s213_151, s213_152, s213_153, s213_154, s213_154i, s213_155, s213_158, s213_159, s213_160, s213_163, s213_164, s213_167, s213_169, s213_170, s213_171, s213_172, s213_173, s213_174, s213_175, s213_175i, s213_176, s213_179, s213_180, s213_182, s213_183, s213_184, s213_187, s213_188, s213_189, s213_192, s213_194, s213_195, s213_196, s213_197, s213_200, true_or, or_true, or_false, false_or, or_self, Int32.reduceLT, Int32.reduceLE, Nat.add_zero, Nat.zero_add, Nat.not_lt_zero, not_false_eq_true, not_true_eq_false, and_assoc, kl_q, kl_i, kl_r, kl_n, kl_0, kl_l, cs_0, cs_i, cs_r, cs_n, cs_l, aRf_s, aRf_n, gi_wl, gi_wr, gl_wi, gl_wl, gl_wr, gr_wi, gr_wl, gr_wr, sh_wi, sh_wl, sh_wr, gl_cp, gr_cp, sh_cp, gl_rw, gr_rw, sh_rw, gi_rl, gr_rl, sh_rl, Option.toList_some, Option.toList_none, List.nil_append, List.cons_append, List.append_nil, Option.some.injEq, Prod.mk.injEq, and_true, true_and, and_self, if_true, if_false, reduceCtorEq, Nat.reduceLeDiff, Nat.reduceLT, Nat.reduceAdd, Nat.reduceEqDiff, false_and, and_false, exists_const, exists_eq_left, exists_eq_left', exists_and_left, and_assoc, nltL, nltR, nleL, nleR, neqL, neqR, naL, naR, nmL, nmR, nI_ltI, nI_leI, nI_eq, nI_add, nI_mul, nI_clamp, n0l, n0r, nm1, nm1', nm1l, nm1r, nm1g, nsL, nI_m1, Nat.add_sub_cancel, vpn, vpL, nclL, le32, leLL, leLN, leNL, leNN, inA, nb0, nb1, gi_wi_n, gi_wi_e, gi_rw_n, gi_rw_e, aWi_rw, z399 ok, z413 ok, r399_22 ok, c1, e3]
      exact hq _ f1 g1
    · refine ⟨?_, ?_, ?_, fun i w q => by simp [rd] at q, fun m hm => ?_⟩
      · rw [gi_rw_n (by decide), z0.1]
        rfl
      · rw [gi_rw_n (by decide), z0.2.1]
        rfl
      · rw [gi_rw_n (by decide), z0.2.2, rd, nb_nil]
      · simp [gi_rw, fillF, hm, rd, cnt]
        rfl
  · have : fillF (gi h0 420) 0 0 = gi h0 420 := by
      funext j
      simp [fillF]
    rw [this, aRw_0]
