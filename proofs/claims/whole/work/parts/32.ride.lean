-- deps: 31.go
/-! ===== RIDES ===== -/
theorem nI_div {a b : Nat} (ha : a < 2 ^ 31) (hb : b < 2 ^ 31) : nI a / nI b = nI (a / b) := by
  have hq : a / b < 2 ^ 31 := Nat.lt_of_le_of_lt (Nat.div_le_self a b) ha
  apply Int32.toInt_inj.mp
  rw [Int32.toInt_div, nI_toInt ha, nI_toInt hb, nI_toInt hq]
  have : (a : Int).tdiv (b : Int) = ((a / b : Nat) : Int) := (Int.ofNat_tdiv a b).symm
  rw [this]
  generalize a / b = q at *
  apply Int.bmod_eq_of_le_mul_two <;> omega
theorem nI_rem {a b : Nat} (ha : a < 2 ^ 31) (hb : b < 2 ^ 31) : nI a - nI a / nI b * nI b = nI (a % b) := by
  rw [nI_div ha hb, nI_mul, nI_sub (Nat.div_mul_le_self a b)]
  congr 1
  have := Nat.div_add_mod a b
  rw [Nat.mul_comm] at this
  omega
abbrev Wd : Type := Nat × Nat × Bool
/-- what is set down at a STEP: the MAN, the STEP, whether it is a SLIP -/
def wdAt (f : Nat → Nat → Int32) (M : Nat) (mud : Int32) (s : Nat) : Option Wd := match (ls (fun m => f m s) M).1 with
  | none => none
  | some k => if ¬ mud = 0 ∧ f k s ≤ 2 then some (if k + 1 < M then k + 1 else 0, s, true) else some (k, s, false)
def rd (f : Nat → Nat → Int32) (M P : Nat) (mud : Int32) (R : Nat) : Nat → List Wd
  | 0 => []
  | n + 1 => if (rd f M P mud R n).length < R then rd f M P mud R n ++ (wdAt f M mud (n * P)).toList else rd f M P mud R n
/-- the RIDE: all that is set down -/
def rdA (f : Nat → Nat → Int32) (M L P : Nat) (mud : Int32) (R : Nat) : List Wd := rd f M P mud R (L / P + 1)
theorem rd_stop {f : Nat → Nat → Int32} {M P : Nat} {mud : Int32} {R n : Nat} (h : R ≤ (rd f M P mud R n).length) : ∀ r, rd f M P mud R (n + r) = rd f M P mud R n
  | 0 => rfl
  | r + 1 => by
    rw [← Nat.add_assoc, rd, rd_stop h r, if_neg (by omega)]
theorem rd_le {f : Nat → Nat → Int32} {M P : Nat} {mud : Int32} {R : Nat} : ∀ n, (rd f M P mud R n).length ≤ R
  | 0 => Nat.zero_le _
  | n + 1 => by
    rw [rd]
    split
    · rename_i h
      cases wdAt f M mud (n * P) with
      | none => simpa using rd_le n
      | some w => simp; omega
    · exact rd_le n
theorem rd_len {f : Nat → Nat → Int32} {M P : Nat} {mud : Int32} {R : Nat} : ∀ n, (rd f M P mud R n).length ≤ n
  | 0 => Nat.zero_le _
  | n + 1 => by
    have := rd_len (f := f) (M := M) (P := P) (mud := mud) (R := R) n
    rw [rd]
    split
    · cases wdAt f M mud (n * P) with
      | none => simp; omega
      | some w => simp; omega
    · omega
theorem wdAt_lt {f : Nat → Nat → Int32} {M : Nat} {mud : Int32} {s : Nat} {w : Wd} (h : wdAt f M mud s = some w) : w.1 < M ∧ w.2.1 = s := by
  unfold wdAt at h
  split at h
  · cases h
  · rename_i k hk
    have := ls_lt hk
    split at h
    · cases h
      refine ⟨?_, rfl⟩
      show (if k + 1 < M then k + 1 else 0) < M
      split <;> omega
    · cases h
      exact ⟨this, rfl⟩
theorem rd_lt {f : Nat → Nat → Int32} {M P : Nat} {mud : Int32} {R : Nat} : ∀ n, ∀ w ∈ rd f M P mud R n, w.1 < M
  | 0, w, h => by cases h
  | n + 1, w, h => by
    rw [rd] at h
    split at h
    · rcases List.mem_append.mp h with h | h
      · exact rd_lt n w h
      · exact (wdAt_lt (Option.mem_toList.mp h)).1
    · exact rd_lt n w h
/-- how often MAN m is set down, SLIPS, and the MEN as bits -/
def cnt (ws : List Wd) (m : Nat) : Nat := ws.countP (fun w => w.1 == m)
def slp (ws : List Wd) : Nat := ws.countP (fun w => w.2.2)
def bitOf (m : Nat) : Int32 := 1 <<< (nI m &&& 31)
def nb (ws : List Wd) : Nat → Int32
  | 0 => 0
  | m + 1 => if 0 < cnt ws m then nb ws m ||| bitOf m else nb ws m
theorem cnt_app (ws : List Wd) (w : Wd) (m : Nat) : cnt (ws ++ [w]) m = if w.1 = m then cnt ws m + 1 else cnt ws m := by
  unfold cnt
  rw [List.countP_append, List.countP_singleton]
  by_cases h : w.1 = m
  · simp [h]
  · simp [h]
theorem cnt_le (ws : List Wd) (m : Nat) : cnt ws m ≤ ws.length := List.countP_le_length
theorem slp_app (ws : List Wd) (w : Wd) : slp (ws ++ [w]) = slp ws + (if w.2.2 = true then 1 else 0) := by
  unfold slp
  rw [List.countP_append, List.countP_singleton]
theorem slp_le (ws : List Wd) : slp ws ≤ ws.length := List.countP_le_length
theorem nb_hi {ws : List Wd} {w : Wd} : ∀ {M : Nat}, M ≤ w.1 → nb (ws ++ [w]) M = nb ws M
  | 0, _ => rfl
  | M + 1, h => by
    rw [nb, nb, nb_hi (by omega), cnt_app, if_neg (show ¬ w.1 = M by omega)]
theorem nb_app {ws : List Wd} {w : Wd} : ∀ {M : Nat}, w.1 < M → nb (ws ++ [w]) M = nb ws M ||| bitOf w.1
  | 0, h => by omega
  | M + 1, h => by
    by_cases e : w.1 = M
    · rw [nb, nb, nb_hi (by omega), cnt_app, if_pos e, if_pos (by omega)]
      split
      · rw [e, Int32.or_assoc, Int32.or_self]
      · rw [e]
    · rw [nb, nb, nb_app (show w.1 < M by omega), cnt_app, if_neg e]
      split
      · rw [Int32.or_assoc, Int32.or_comm (bitOf w.1), ← Int32.or_assoc]
      · rfl
theorem nb_nil : ∀ M, nb [] M = 0
  | 0 => rfl
  | M + 1 => by
    rw [nb, nb_nil M]
    rfl
/-- the class's course after a ride -/
def GoP (h : aM) (ws : List Wd) : Prop := gi h 342 1 = nI ws.length ∧ gi h 342 2 = nI (slp ws) ∧ (∀ i w, ws[i]? = some w → gi h 344 i = nI w.1 ∧ gi h 345 i = nI w.2.1) ∧ ∀ m, m < 6 → gi h 343 m = nI (cnt ws m)
def goX (a k : Nat) : Bool := (Nat.ble 343 a && Nat.ble a 345) || (a == 342 && (k == 1 || k == 2))
theorem goX_scr : ∀ a k, goX a k = true → Scr a k = true := by
  intro a k h
  unfold goX at h
  simp only [Bool.or_eq_true, Bool.and_eq_true, beq_iff_eq, Nat.ble_eq] at h
  have h1 : Nat.ble 342 a = true := Nat.ble_eq_true_of_le (by omega)
  have h2 : Nat.ble a 357 = true := Nat.ble_eq_true_of_le (by omega)
  simp [Scr, h1, h2]
theorem goX351 {m k : Nat} (hm : m < 6) : goX (351 + m) k = false := by
  have : m = 0 ∨ m = 1 ∨ m = 2 ∨ m = 3 ∨ m = 4 ∨ m = 5 := by omega
  rcases this with rfl | rfl | rfl | rfl | rfl | rfl <;> rfl
theorem imin20 {R : Nat} (h : R ≤ 20) : imin (nI R) 20 = nI R := by
  unfold imin
  rw [if_neg]
  intro q
  have := (nI_ltI (a := 20) (b := R) (by decide) (by omega)).mp q
  omega
theorem getapp {ws : List Wd} {w w' : Wd} {i : Nat} (h : (ws ++ [w])[i]? = some w') : (i = ws.length ∧ w' = w) ∨ (i < ws.length ∧ ws[i]? = some w') := by
  by_cases e : i < ws.length
  · rw [List.getElem?_append_left e] at h
    exact Or.inr ⟨e, h⟩
  · rw [List.getElem?_append_right (by omega)] at h
    by_cases e2 : i = ws.length
    · subst e2
      simp at h
      exact Or.inl ⟨rfl, h.symm⟩
    · rw [List.getElem?_eq_none (by simp; omega)] at h
      cases h
theorem c_go {d : Nat} {g h : aM} {Q : Option Value → aM → Prop} {M F L R : Nat} {st vo dp : Nat → Int32} {P : Nat} {mud : Int32} {f : Nat → Nat → Int32} (hM : M ≤ 6) (hL : L ≤ 30) (P1 : 1 ≤ P) (P5 : P ≤ 5) (hR : R ≤ 20) (co : CoP g h M F L st vo dp P mud) (hf : ∀ m, m < M → ∀ j, j * P ≤ L → gi h (351 + m) (j * P) = f m (j * P))
    (hq : ∀ h', Fr goX h h' → GoP h' (rdA f M L P mud R) → Q none h') : AW (d + 2) 16 0 [some (.ref 342), some (.int (nI R)), none, none, none, none] [] h Q := by
  have ok := co.1.1
  simp (disch := omega) only [s16_0, s16_1, s16_4, s16_5, s16_8, s16_9, s16_10, s16_13, s16_14, s16_15, s16_18, s16_19, s16_21, s16_24, s16_25, s16_26, s16_28, s16_29, s16_32, s16_35, s16_36, s16_39, s16_40, s16_43, s16_44, s16_45, s16_48, s16_50, s16_52, s16_53, s16_56, s16_59, s16_61, s16_63, s16_64, s16_66, s16_67, s16_70, s16_73, s16_74, s16_74i, s16_75, s16_78, s16_79, s16_80, s16_83, s16_84, s16_86, s16_89, s16_91, s16_92, s16_95, s16_96, s16_99, s16_101, s16_102, s16_103, s16_106, s16_107, s16_110, s16_111, s16_112, s16_113, s16_113i, s16_114, s16_117, s16_118, s16_119, s16_122, s16_123, s16_126, s16_128, s16_129, s16_130, s16_131, s16_132, s16_133, s16_134, s16_135, s16_136, s16_139, s16_142, s16_143, s16_144, s16_147, true_or, or_true, or_false, false_or, or_self, Int32.reduceLT, Int32.reduceLE, Nat.add_zero, Nat.zero_add, Nat.not_lt_zero, not_false_eq_true, not_true_eq_false, and_assoc, kl_q, kl_i, kl_r, kl_n, kl_0, kl_l, cs_0, cs_i, cs_r, cs_n, cs_l, aRf_s, aRf_n, gi_wl, gi_wr, gl_wi, gl_wl, gl_wr, gr_wi, gr_wl, gr_wr, sh_wi, sh_wl, sh_wr, gl_cp, gr_cp, sh_cp, gl_rw, gr_rw, sh_rw, gi_rl, gr_rl, sh_rl, Option.toList_some, Option.toList_none, List.nil_append, List.cons_append, List.append_nil, Option.some.injEq, Prod.mk.injEq, and_true, true_and, and_self, if_true, if_false, reduceCtorEq, Nat.reduceLeDiff, Nat.reduceLT, Nat.reduceAdd, Nat.reduceEqDiff, false_and, and_false, exists_const, exists_eq_left, exists_eq_left', exists_and_left, and_assoc, nltL, nltR, nleL, nleR, neqL, neqR, naL, naR, nmL, nmR, nI_ltI, nI_leI, nI_eq, nI_add, nI_mul, nI_clamp, n0l, n0r, nm1, nm1', nm1l, nm1r, nm1g, nsL, nI_m1, Nat.add_sub_cancel, vpn, vpL, nclL, le32, leLL, leLN, leNL, leNN, inA, nb0, nb1, gi_wi_n, gi_wi_e, gi_rw_n, gi_rw_e, aWi_rw, z342 ok, r342_0 ok]
  refine sp_fillI (z343 ok) (by decide) (by decide) ?_
  simp (disch := omega) only [s16_0, s16_1, s16_4, s16_5, s16_8, s16_9, s16_10, s16_13, s16_14, s16_15, s16_18, s16_19, s16_21, s16_24, s16_25, s16_26, s16_28, s16_29, s16_32, s16_35, s16_36, s16_39, s16_40, s16_43, s16_44, s16_45, s16_48, s16_50, s16_52, s16_53, s16_56, s16_59, s16_61, s16_63, s16_64, s16_66, s16_67, s16_70, s16_73, s16_74, s16_74i, s16_75, s16_78, s16_79, s16_80, s16_83, s16_84, s16_86, s16_89, s16_91, s16_92, s16_95, s16_96, s16_99, s16_101, s16_102, s16_103, s16_106, s16_107, s16_110, s16_111, s16_112, s16_113, s16_113i, s16_114, s16_117, s16_118, s16_119, s16_122, s16_123, s16_126, s16_128, s16_129, s16_130, s16_131, s16_132, s16_133, s16_134, s16_135, s16_136, s16_139, s16_142, s16_143, s16_144, s16_147, true_or, or_true, or_false, false_or, or_self, Int32.reduceLT, Int32.reduceLE, Nat.add_zero, Nat.zero_add, Nat.not_lt_zero, not_false_eq_true, not_true_eq_false, and_assoc, kl_q, kl_i, kl_r, kl_n, kl_0, kl_l, cs_0, cs_i, cs_r, cs_n, cs_l, aRf_s, aRf_n, gi_wl, gi_wr, gl_wi, gl_wl, gl_wr, gr_wi, gr_wl, gr_wr, sh_wi, sh_wl, sh_wr, gl_cp, gr_cp, sh_cp, gl_rw, gr_rw, sh_rw, gi_rl, gr_rl, sh_rl, Option.toList_some, Option.toList_none, List.nil_append, List.cons_append, List.append_nil, Option.some.injEq, Prod.mk.injEq, and_true, true_and, and_self, if_true, if_false, reduceCtorEq, Nat.reduceLeDiff, Nat.reduceLT, Nat.reduceAdd, Nat.reduceEqDiff, false_and, and_false, exists_const, exists_eq_left, exists_eq_left', exists_and_left, and_assoc, nltL, nltR, nleL, nleR, neqL, neqR, naL, naR, nmL, nmR, nI_ltI, nI_leI, nI_eq, nI_add, nI_mul, nI_clamp, n0l, n0r, nm1, nm1', nm1l, nm1r, nm1g, nsL, nI_m1, Nat.add_sub_cancel, vpn, vpL, nclL, le32, leLL, leLN, leNL, leNN, inA, nb0, nb1, gi_wi_n, gi_wi_e, gi_rw_n, gi_rw_e, aWi_rw, z342 ok, r342_0 ok, sp_min, imin20]
  refine aLoop (L / P + 1) (fun n lv h' => ∃ w1 w2, lv = [some (.ref 342), some (.int (nI R)), some (.int (nI R)), some (.int (nI (n * P))), w1, w2] ∧ Fr goX h h' ∧ GoP h' (rd f M P mud R n)) ?_ ?_ 0 _ _ (Nat.zero_le _) ⟨none, none, by rw [Nat.zero_mul]; rfl, (((Fr.refl ok).rw (fun k => rfl)).wi rfl).wi rfl, ?_⟩
  · rintro n lv h' hn ⟨w1, w2, rfl, f1, g1, g2, g3, g4⟩ hk
    have co' := co.fr f1 goX_scr ⟨rfl, rfl, rfl, rfl⟩ (fun k => ⟨rfl, rfl, rfl, rfl⟩)
    obtain ⟨c1, c2, c3, c4, c5, c6, c7, c8⟩ := id co'
    have ok := c1.1
    have nL : n * P ≤ L := (Nat.le_div_iff_mul_le P1).mp (by omega)
    have e3 : ¬ L < n * P := by omega
    have hlen := rd_le (f := f) (M := M) (P := P) (mud := mud) (R := R) n
    have hf' : ∀ m, m < M → gi h' (351 + m) (n * P) = f m (n * P) := fun m hm => by
      rw [f1.2.2.2 _ _ (goX351 (by omega))]
      exact hf m hm n nL
    have hk' : ∀ w1 w2 h2, Fr goX h h2 → GoP h2 (rd f M P mud R (n + 1)) → AW (d + 2) 16 27 [some (.ref 342), some (.int (nI R)), some (.int (nI R)), some (.int (nI (n * P + P))), w1, w2] [] h2 Q := fun w1 w2 h2 a b => hk _ _ ⟨w1, w2, by rw [Nat.succ_mul], a, b⟩
    clear hk
    rw [s16_27]
    by_cases hr : (rd f M P mud R n).length < R
    · have hr' : ¬ R ≤ (rd f M P mud R n).length := by omega
      have e31 : n * P < 31 := by omega
      rw [rd, if_pos hr] at hk'
      simp (disch := omega) only [s16_0, s16_1, s16_4, s16_5, s16_8, s16_9, s16_10, s16_13, s16_14, s16_15, s16_18, s16_19, s16_21, s16_24, s16_25, s16_26, s16_28, s16_29, s16_32, s16_35, s16_36, s16_39, s16_40, s16_43, s16_44, s16_45, s16_48, s16_50, s16_52, s16_53, s16_56, s16_59, s16_61, s16_63, s16_64, s16_66, s16_67, s16_70, s16_73, s16_74, s16_74i, s16_75, s16_78, s16_79, s16_80, s16_83, s16_84, s16_86, s16_89, s16_91, s16_92, s16_95, s16_96, s16_99, s16_101, s16_102, s16_103, s16_106, s16_107, s16_110, s16_111, s16_112, s16_113, s16_113i, s16_114, s16_117, s16_118, s16_119, s16_122, s16_123, s16_126, s16_128, s16_129, s16_130, s16_131, s16_132, s16_133, s16_134, s16_135, s16_136, s16_139, s16_142, s16_143, s16_144, s16_147, true_or, or_true, or_false, false_or, or_self, Int32.reduceLT, Int32.reduceLE, Nat.add_zero, Nat.zero_add, Nat.not_lt_zero, not_false_eq_true, not_true_eq_false, and_assoc, kl_q, kl_i, kl_r, kl_n, kl_0, kl_l, cs_0, cs_i, cs_r, cs_n, cs_l, aRf_s, aRf_n, gi_wl, gi_wr, gl_wi, gl_wl, gl_wr, gr_wi, gr_wl, gr_wr, sh_wi, sh_wl, sh_wr, gl_cp, gr_cp, sh_cp, gl_rw, gr_rw, sh_rw, gi_rl, gr_rl, sh_rl, Option.toList_some, Option.toList_none, List.nil_append, List.cons_append, List.append_nil, Option.some.injEq, Prod.mk.injEq, and_true, true_and, and_self, if_true, if_false, reduceCtorEq, Nat.reduceLeDiff, Nat.reduceLT, Nat.reduceAdd, Nat.reduceEqDiff, false_and, and_false, exists_const, exists_eq_left, exists_eq_left', exists_and_left, and_assoc, nltL, nltR, nleL, nleR, neqL, neqR, naL, naR, nmL, nmR, nI_ltI, nI_leI, nI_eq, nI_add, nI_mul, nI_clamp, n0l, n0r, nm1, nm1', nm1l, nm1r, nm1g, nsL, nI_m1, Nat.add_sub_cancel, vpn, vpL, nclL, le32, leLL, leLN, leNL, leNN, inA, nb0, nb1, gi_wi_n, gi_wi_e, gi_rw_n, gi_rw_e, aWi_rw, z342 ok, c3, e3, g1, hr']
      refine c_ldst (f := fun m => f m (n * P)) ok hM (by omega) c2 hf' ?_
      cases hls : (ls (fun m => f m (n * P)) M).1 with
      | none =>
        have ew : wdAt f M mud (n * P) = none := by
          unfold wdAt
          rw [hls]
        rw [ew] at hk'
        simp only [Option.toList_none, List.append_nil] at hk'
        simp (disch := omega) only [s16_0, s16_1, s16_4, s16_5, s16_8, s16_9, s16_10, s16_13, s16_14, s16_15, s16_18, s16_19, s16_21, s16_24, s16_25, s16_26, s16_28, s16_29, s16_32, s16_35, s16_36, s16_39, s16_40, s16_43, s16_44, s16_45, s16_48, s16_50, s16_52, s16_53, s16_56, s16_59, s16_61, s16_63, s16_64, s16_66, s16_67, s16_70, s16_73, s16_74, s16_74i, s16_75, s16_78, s16_79, s16_80, s16_83, s16_84, s16_86, s16_89, s16_91, s16_92, s16_95, s16_96, s16_99, s16_101, s16_102, s16_103, s16_106, s16_107, s16_110, s16_111, s16_112, s16_113, s16_113i, s16_114, s16_117, s16_118, s16_119, s16_122, s16_123, s16_126, s16_128, s16_129, s16_130, s16_131, s16_132, s16_133, s16_134, s16_135, s16_136, s16_139, s16_142, s16_143, s16_144, s16_147, true_or, or_true, or_false, false_or, or_self, Int32.reduceLT, Int32.reduceLE, Nat.add_zero, Nat.zero_add, Nat.not_lt_zero, not_false_eq_true, not_true_eq_false, and_assoc, kl_q, kl_i, kl_r, kl_n, kl_0, kl_l, cs_0, cs_i, cs_r, cs_n, cs_l, aRf_s, aRf_n, gi_wl, gi_wr, gl_wi, gl_wl, gl_wr, gr_wi, gr_wl, gr_wr, sh_wi, sh_wl, sh_wr, gl_cp, gr_cp, sh_cp, gl_rw, gr_rw, sh_rw, gi_rl, gr_rl, sh_rl, Option.toList_some, Option.toList_none, List.nil_append, List.cons_append, List.append_nil, Option.some.injEq, Prod.mk.injEq, and_true, true_and, and_self, if_true, if_false, reduceCtorEq, Nat.reduceLeDiff, Nat.reduceLT, Nat.reduceAdd, Nat.reduceEqDiff, false_and, and_false, exists_const, exists_eq_left, exists_eq_left', exists_and_left, and_assoc, nltL, nltR, nleL, nleR, neqL, neqR, naL, naR, nmL, nmR, nI_ltI, nI_leI, nI_eq, nI_add, nI_mul, nI_clamp, n0l, n0r, nm1, nm1', nm1l, nm1r, nm1g, nsL, nI_m1, Nat.add_sub_cancel, vpn, vpL, nclL, le32, leLL, leLN, leNL, leNN, inA, nb0, nb1, gi_wi_n, gi_wi_e, gi_rw_n, gi_rw_e, aWi_rw, z342 ok, c4, oI, sp_max, imax1]
        exact hk' _ _ _ f1 ⟨g1, g2, g3, g4⟩
      | some k =>
        have kM := ls_lt hls
        have k6 : k < 6 := by omega
        have hfk := hf' k kM
        have tail : ∀ (w1 : Option Value) (k' : Nat) (h2 : aM) (sl : Bool), k' < M → h2 = (if sl = true then aWi h' 342 2 (nI (slp (rd f M P mud R n) + 1)) else h') → wdAt f M mud (n * P) = some (k', n * P, sl) → AW (d + 2) 16 91 [some (.ref 342), some (.int (nI R)), some (.int (nI R)), some (.int (nI (n * P))), w1, some (.int (nI k'))] [] h2 Q := by
          intro w1 k' h2 sl kM' e2 ew
          rw [ew] at hk'
          simp only [Option.toList_some] at hk'
          have k6' : k' < 6 := by omega
          have f2 : Fr goX h h2 := by
            rw [e2]
            split
            · exact f1.wi rfl
            · exact f1
          have ok := f2.1
          have d1 : gi h2 342 1 = nI (rd f M P mud R n).length := by
            rw [e2, ← g1]
            split
            · rw [gi_wi_n (by omega)]
            · rfl
          have d2 : gi h2 342 2 = nI (slp (rd f M P mud R n) + (if sl = true then 1 else 0)) := by
            rw [e2]
            cases sl
            · simpa using g2
            · simp [gi_wi_e]
          have d3 : ∀ a k, a = 343 ∨ a = 344 ∨ a = 345 → gi h2 a k = gi h' a k := by
            intro a k ha
            rw [e2]
            split
            · rw [gi_wi_n (by omega)]
            · rfl
          have d4 : gi h2 342 13 = nI P := by
            rw [e2, ← c4]
            split
            · rw [gi_wi_n (by omega)]
            · rfl
          have el : (rd f M P mud R n).length < 20 := by omega
          simp (disch := omega) only [s16_0, s16_1, s16_4, s16_5, s16_8, s16_9, s16_10, s16_13, s16_14, s16_15, s16_18, s16_19, s16_21, s16_24, s16_25, s16_26, s16_28, s16_29, s16_32, s16_35, s16_36, s16_39, s16_40, s16_43, s16_44, s16_45, s16_48, s16_50, s16_52, s16_53, s16_56, s16_59, s16_61, s16_63, s16_64, s16_66, s16_67, s16_70, s16_73, s16_74, s16_74i, s16_75, s16_78, s16_79, s16_80, s16_83, s16_84, s16_86, s16_89, s16_91, s16_92, s16_95, s16_96, s16_99, s16_101, s16_102, s16_103, s16_106, s16_107, s16_110, s16_111, s16_112, s16_113, s16_113i, s16_114, s16_117, s16_118, s16_119, s16_122, s16_123, s16_126, s16_128, s16_129, s16_130, s16_131, s16_132, s16_133, s16_134, s16_135, s16_136, s16_139, s16_142, s16_143, s16_144, s16_147, true_or, or_true, or_false, false_or, or_self, Int32.reduceLT, Int32.reduceLE, Nat.add_zero, Nat.zero_add, Nat.not_lt_zero, not_false_eq_true, not_true_eq_false, and_assoc, kl_q, kl_i, kl_r, kl_n, kl_0, kl_l, cs_0, cs_i, cs_r, cs_n, cs_l, aRf_s, aRf_n, gi_wl, gi_wr, gl_wi, gl_wl, gl_wr, gr_wi, gr_wl, gr_wr, sh_wi, sh_wl, sh_wr, gl_cp, gr_cp, sh_cp, gl_rw, gr_rw, sh_rw, gi_rl, gr_rl, sh_rl, Option.toList_some, Option.toList_none, List.nil_append, List.cons_append, List.append_nil, Option.some.injEq, Prod.mk.injEq, and_true, true_and, and_self, if_true, if_false, reduceCtorEq, Nat.reduceLeDiff, Nat.reduceLT, Nat.reduceAdd, Nat.reduceEqDiff, false_and, and_false, exists_const, exists_eq_left, exists_eq_left', exists_and_left, and_assoc, nltL, nltR, nleL, nleR, neqL, neqR, naL, naR, nmL, nmR, nI_ltI, nI_leI, nI_eq, nI_add, nI_mul, nI_clamp, n0l, n0r, nm1, nm1', nm1l, nm1r, nm1g, nsL, nI_m1, Nat.add_sub_cancel, vpn, vpL, nclL, le32, leLL, leLN, leNL, leNN, inA, nb0, nb1, gi_wi_n, gi_wi_e, gi_rw_n, gi_rw_e, aWi_rw, z342 ok, z343 ok, z344 ok, z345 ok, r342_0 ok, r342_3 ok, r342_4 ok, d1, d4, el, k6', sp_max, imax1]
          refine hk' _ _ _ (((((f2.wi rfl).wi rfl).wi rfl)).wi rfl) ⟨?_, ?_, ?_, ?_⟩
          · simp [gi_wi]
          · rw [slp_app, ← d2]
            simp [gi_wi]
          · intro i w hw
            rcases getapp hw with ⟨rfl, rfl⟩ | ⟨hi, hw⟩
            · simp [gi_wi]
            · obtain ⟨q1, q2⟩ := g3 i w hw
              rw [← q1, ← q2, ← d3 344 i (by omega), ← d3 345 i (by omega)]
              have : ¬ i = (rd f M P mud R n).length := by omega
              simp [gi_wi, this]
          · intro m hm
            have q := g4 m hm
            rw [← d3 343 m (by omega)] at q
            rw [cnt_app]
            by_cases hmk : k' = m
            · subst hmk
              rw [if_pos rfl, ← nI_1 (cnt (rd f M P mud R n) k'), ← q]
              simp [gi_wi]
            · rw [if_neg hmk, ← q]
              have : ¬ m = k' := fun e => hmk e.symm
              simp [gi_wi, this]
        simp (disch := omega) only [s16_0, s16_1, s16_4, s16_5, s16_8, s16_9, s16_10, s16_13, s16_14, s16_15, s16_18, s16_19, s16_21, s16_24, s16_25, s16_26, s16_28, s16_29, s16_32, s16_35, s16_36, s16_39, s16_40, s16_43, s16_44, s16_45, s16_48, s16_50, s16_52, s16_53, s16_56, s16_59, s16_61, s16_63, s16_64, s16_66, s16_67, s16_70, s16_73, s16_74, s16_74i, s16_75, s16_78, s16_79, s16_80, s16_83, s16_84, s16_86, s16_89, s14_0, s14_1, s14_4, s14_7, s14_8, s14_11, s14_12, s14_13, s14_14, s14_15, s14_16, s14_19, s14_20, s14_23, s14_24, s15_0, s15_1, s15_2, s15_3, s15_4, s15_7, s15_10, s15_11, s15_12, s15_13, s15_16, s15_17, true_or, or_true, or_false, false_or, or_self, Int32.reduceLT, Int32.reduceLE, Nat.add_zero, Nat.zero_add, Nat.not_lt_zero, not_false_eq_true, not_true_eq_false, and_assoc, kl_q, kl_i, kl_r, kl_n, kl_0, kl_l, cs_0, cs_i, cs_r, cs_n, cs_l, aRf_s, aRf_n, gi_wl, gi_wr, gl_wi, gl_wl, gl_wr, gr_wi, gr_wl, gr_wr, sh_wi, sh_wl, sh_wr, gl_cp, gr_cp, sh_cp, gl_rw, gr_rw, sh_rw, gi_rl, gr_rl, sh_rl, Option.toList_some, Option.toList_none, List.nil_append, List.cons_append, List.append_nil, Option.some.injEq, Prod.mk.injEq, and_true, true_and, and_self, if_true, if_false, reduceCtorEq, Nat.reduceLeDiff, Nat.reduceLT, Nat.reduceAdd, Nat.reduceEqDiff, false_and, and_false, exists_const, exists_eq_left, exists_eq_left', exists_and_left, and_assoc, nltL, nltR, nleL, nleR, neqL, neqR, naL, naR, nmL, nmR, nI_ltI, nI_leI, nI_eq, nI_add, nI_mul, nI_clamp, n0l, n0r, nm1, nm1', nm1l, nm1r, nm1g, nsL, nI_m1, Nat.add_sub_cancel, vpn, vpL, nclL, le32, leLL, leLN, leNL, leNN, inA, nb0, nb1, gi_wi_n, gi_wi_e, gi_rw_n, gi_rw_e, aWi_rw, z342 ok, z350 ok, r342_9 ok, c4, c5, c2, oI, g350 ok k6, q351 ok k6, hfk, k6, e31, g2]
        have ewd : wdAt f M mud (n * P) = if ¬ mud = 0 ∧ f k (n * P) ≤ 2 then some (if k + 1 < M then k + 1 else 0, n * P, true) else some (k, n * P, false) := by
          unfold wdAt
          rw [hls]
        by_cases hmu : mud = 0
        · rw [if_pos hmu]
          rw [if_neg (fun q => q.1 hmu)] at ewd
          exact tail _ k _ false kM rfl ewd
        · rw [if_neg hmu]
          by_cases h2f : 2 < f k (n * P)
          · rw [if_pos h2f]
            rw [if_neg (fun q => Int32.not_le.mpr h2f q.2)] at ewd
            exact tail _ k _ false kM rfl ewd
          · rw [if_neg h2f]
            rw [if_pos ⟨hmu, Int32.not_lt.mp h2f⟩] at ewd
            by_cases hkk : M ≤ k + 1
            · rw [if_pos hkk]
              rw [if_neg (by omega)] at ewd
              exact tail _ 0 _ true (by omega) rfl ewd
            · rw [if_neg hkk]
              rw [if_pos (by omega)] at ewd
              exact tail _ (k + 1) _ true (by omega) rfl ewd
    · simp (disch := omega) only [s16_0, s16_1, s16_4, s16_5, s16_8, s16_9, s16_10, s16_13, s16_14, s16_15, s16_18, s16_19, s16_21, s16_24, s16_25, s16_26, s16_28, s16_29, s16_32, s16_35, s16_36, s16_39, s16_40, s16_43, s16_44, s16_45, s16_48, s16_50, s16_52, s16_53, s16_56, s16_59, s16_61, s16_63, s16_64, s16_66, s16_67, s16_70, s16_73, s16_74, s16_74i, s16_75, s16_78, s16_79, s16_80, s16_83, s16_84, s16_86, s16_89, s16_91, s16_92, s16_95, s16_96, s16_99, s16_101, s16_102, s16_103, s16_106, s16_107, s16_110, s16_111, s16_112, s16_113, s16_113i, s16_114, s16_117, s16_118, s16_119, s16_122, s16_123, s16_126, s16_128, s16_129, s16_130, s16_131, s16_132, s16_133, s16_134, s16_135, s16_136, s16_139, s16_142, s16_143, s16_144, s16_147, true_or, or_true, or_false, false_or, or_self, Int32.reduceLT, Int32.reduceLE, Nat.add_zero, Nat.zero_add, Nat.not_lt_zero, not_false_eq_true, not_true_eq_false, and_assoc, kl_q, kl_i, kl_r, kl_n, kl_0, kl_l, cs_0, cs_i, cs_r, cs_n, cs_l, aRf_s, aRf_n, gi_wl, gi_wr, gl_wi, gl_wl, gl_wr, gr_wi, gr_wl, gr_wr, sh_wi, sh_wl, sh_wr, gl_cp, gr_cp, sh_cp, gl_rw, gr_rw, sh_rw, gi_rl, gr_rl, sh_rl, Option.toList_some, Option.toList_none, List.nil_append, List.cons_append, List.append_nil, Option.some.injEq, Prod.mk.injEq, and_true, true_and, and_self, if_true, if_false, reduceCtorEq, Nat.reduceLeDiff, Nat.reduceLT, Nat.reduceAdd, Nat.reduceEqDiff, false_and, and_false, exists_const, exists_eq_left, exists_eq_left', exists_and_left, and_assoc, nltL, nltR, nleL, nleR, neqL, neqR, naL, naR, nmL, nmR, nI_ltI, nI_leI, nI_eq, nI_add, nI_mul, nI_clamp, n0l, n0r, nm1, nm1', nm1l, nm1r, nm1g, nsL, nI_m1, Nat.add_sub_cancel, vpn, vpL, nclL, le32, leLL, leLN, leNL, leNN, inA, nb0, nb1, gi_wi_n, gi_wi_e, gi_rw_n, gi_rw_e, aWi_rw, z342 ok, c3, e3, g1]
      rw [if_pos (by omega)]
      refine hq _ f1 ?_
      have := rd_stop (f := f) (M := M) (P := P) (mud := mud) (R := R) (n := n) (by omega) (L / P + 1 - n)
      rw [rdA, show L / P + 1 = n + (L / P + 1 - n) by omega, this]
      exact ⟨g1, g2, g3, g4⟩
  · rintro lv h' ⟨w1, w2, rfl, f1, g1⟩
    have co' := co.fr f1 goX_scr ⟨rfl, rfl, rfl, rfl⟩ (fun k => ⟨rfl, rfl, rfl, rfl⟩)
    have ok := co'.1.1
    have c3 := co'.2.2.1
    have e3 : L < (L / P + 1) * P := Nat.lt_of_not_le (fun q => by have := (Nat.le_div_iff_mul_le P1).mpr q; omega)
    have e4 : (L / P + 1) * P ≤ L + P := by rw [Nat.succ_mul]; have := Nat.div_mul_le_self L P; omega
    rw [s16_27]
    simp (disch := omega) only [s16_0, s16_1, s16_4, s16_5, s16_8, s16_9, s16_10, s16_13, s16_14, s16_15, s16_18, s16_19, s16_21, s16_24, s16_25, s16_26, s16_28, s16_29, s16_32, s16_35, s16_36, s16_39, s16_40, s16_43, s16_44, s16_45, s16_48, s16_50, s16_52, s16_53, s16_56, s16_59, s16_61, s16_63, s16_64, s16_66, s16_67, s16_70, s16_73, s16_74, s16_74i, s16_75, s16_78, s16_79, s16_80, s16_83, s16_84, s16_86, s16_89, s16_91, s16_92, s16_95, s16_96, s16_99, s16_101, s16_102, s16_103, s16_106, s16_107, s16_110, s16_111, s16_112, s16_113, s16_113i, s16_114, s16_117, s16_118, s16_119, s16_122, s16_123, s16_126, s16_128, s16_129, s16_130, s16_131, s16_132, s16_133, s16_134, s16_135, s16_136, s16_139, s16_142, s16_143, s16_144, s16_147, true_or, or_true, or_false, false_or, or_self, Int32.reduceLT, Int32.reduceLE, Nat.add_zero, Nat.zero_add, Nat.not_lt_zero, not_false_eq_true, not_true_eq_false, and_assoc, kl_q, kl_i, kl_r, kl_n, kl_0, kl_l, cs_0, cs_i, cs_r, cs_n, cs_l, aRf_s, aRf_n, gi_wl, gi_wr, gl_wi, gl_wl, gl_wr, gr_wi, gr_wl, gr_wr, sh_wi, sh_wl, sh_wr, gl_cp, gr_cp, sh_cp, gl_rw, gr_rw, sh_rw, gi_rl, gr_rl, sh_rl, Option.toList_some, Option.toList_none, List.nil_append, List.cons_append, List.append_nil, Option.some.injEq, Prod.mk.injEq, and_true, true_and, and_self, if_true, if_false, reduceCtorEq, Nat.reduceLeDiff, Nat.reduceLT, Nat.reduceAdd, Nat.reduceEqDiff, false_and, and_false, exists_const, exists_eq_left, exists_eq_left', exists_and_left, and_assoc, nltL, nltR, nleL, nleR, neqL, neqR, naL, naR, nmL, nmR, nI_ltI, nI_leI, nI_eq, nI_add, nI_mul, nI_clamp, n0l, n0r, nm1, nm1', nm1l, nm1r, nm1g, nsL, nI_m1, Nat.add_sub_cancel, vpn, vpL, nclL, le32, leLL, leLN, leNL, leNN, inA, nb0, nb1, gi_wi_n, gi_wi_e, gi_rw_n, gi_rw_e, aWi_rw, z342 ok, c3, e3]
    exact hq _ f1 g1
  · refine ⟨by simp [gi_wi, rd]; rfl, by simp [gi_wi, rd, slp]; rfl, fun i w q => by simp [rd] at q, fun m hm => ?_⟩
    simp [gi_wi, gi_rw, fillF, hm, rd, cnt]
    rfl
