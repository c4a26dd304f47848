-- deps: 95.mitems3
/-! ===== rides as texts: clauses; how the class reads them ===== -/
abbrev RS : Type := Bool × (Nat → Nat) × List (Nat → Nat) × List (Nat → Nat)
def mf (l : List (Nat → Nat)) (i : Nat) : Nat → Nat := l.getD i (fun _ => 0)
def rcG (B : Nat → Nat) (T p : Nat) (s : RS) : Option (Nat ⊕ (Nat × RS)) :=
  if sgB B T (sk B T p) = 115 ∧ s.1 = false then (match itG B T 0 (mK 0 + 1) (sk B T p + 1) 0 (usK 0) with
    | none => none
    | some (.inl q) => some (.inl q)
    | some (.inr (p', row)) => some (.inr (p', (true, row, s.2.2.1, s.2.2.2))))
  else if sgB B T (sk B T p) = 100 ∧ s.2.2.1.length < 6 then (match itG B T 1 (mK 1 + 1) (sk B T p + 1) 0 (usK 1) with
    | none => none
    | some (.inl q) => some (.inl q)
    | some (.inr (p', row)) => some (.inr (p', (s.1, s.2.1, s.2.2.1 ++ [row], s.2.2.2))))
  else if sgB B T (sk B T p) = 102 ∧ s.2.2.2.length < 5 then (match itG B T 2 (mK 2 + 1) (sk B T p + 1) 0 (usK 2) with
    | none => none
    | some (.inl q) => some (.inl q)
    | some (.inr (p', row)) => some (.inr (p', (s.1, s.2.1, s.2.2.1, s.2.2.2 ++ [row]))))
  else some (.inl (sk B T p))
/-- what is so of what was read -/
def RsOk (s : RS) : Prop := s.2.2.1.length ≤ 6 ∧ s.2.2.2.length ≤ 5 ∧ (s.1 = false → s.2.1 = usK 0) ∧ (∀ k, k < 5 → loK 0 k ≤ s.2.1 k ∧ s.2.1 k ≤ hiK 0 k) ∧ (∀ i, i < s.2.2.1.length → ∀ k, k < 4 → mf s.2.2.1 i k ≤ hiK 1 k) ∧ ∀ i, i < s.2.2.2.length → ∀ k, k < 2 → mf s.2.2.2 i k ≤ hiK 2 k
def RX (a k : Nat) : Prop := AtZ a k ∨ (35 ≤ a ∧ a ≤ 50)
def RcC (h : aM) (B : Nat → Nat) (T p : Nat) (s : RS) : Prop := TpC h B T ∧ ICon h ∧ gi h 33 2 = nI p ∧ gi h 35 2 = bI s.1 ∧ gi h 36 3 = nI s.2.2.1.length ∧ gi h 36 4 = nI s.2.2.2.length ∧ (∀ k, k < 5 → gi h 37 k = nI (s.2.1 k)) ∧ (∀ i, i < s.2.2.1.length → ∀ k, k < 4 → gi h (39 + i) k = nI (mf s.2.2.1 i k)) ∧ ∀ i, i < s.2.2.2.length → ∀ k, k < 2 → gi h (46 + i) k = nI (mf s.2.2.2 i k)
def PostR (B : Nat → Nat) (T : Nat) (Q : Option Value → aM → Prop) (r : Nat ⊕ (Nat × RS)) (h : aM) : Prop := match r with
  | .inl q => gi h 33 3 = nI q → Q (some (.int 0)) h
  | .inr (p, s) => RcC h B T p s → Q (some (.int 1)) h
section D1
variable {d : Nat} {h : aM} {Q : Option Value → aM → Prop} {B : Nat → Nat} {T p : Nat} {s : RS} {r : Nat ⊕ (Nat × RS)}
theorem mf_old {l : List (Nat → Nat)} {x : Nat → Nat} {i : Nat} (h : i < l.length) : mf (l ++ [x]) i = mf l i := by
  unfold mf
  rw [List.getD_eq_getElem?_getD, List.getD_eq_getElem?_getD, List.getElem?_append_left h]
theorem mf_new {l : List (Nat → Nat)} {x : Nat → Nat} : mf (l ++ [x]) l.length = x := by
  unfold mf
  rw [List.getD_eq_getElem?_getD, List.getElem?_append_right (Nat.le_refl _), Nat.sub_self]
  rfl
theorem r38i {i : Nat} (ok : OK h) (hi : i < 6) : gr h 38 i = some (39 + i) ∧ sh h (39 + i) = some (100, 4) := by
  have : i = 0 ∨ i = 1 ∨ i = 2 ∨ i = 3 ∨ i = 4 ∨ i = 5 := by omega
  rcases this with rfl | rfl | rfl | rfl | rfl | rfl
  · exact ⟨r38_0 ok, z39 ok⟩
  · exact ⟨r38_1 ok, z40 ok⟩
  · exact ⟨r38_2 ok, z41 ok⟩
  · exact ⟨r38_3 ok, z42 ok⟩
  · exact ⟨r38_4 ok, z43 ok⟩
  · exact ⟨r38_5 ok, z44 ok⟩
theorem r45i {i : Nat} (ok : OK h) (hi : i < 5) : gr h 45 i = some (46 + i) ∧ sh h (46 + i) = some (100, 2) := by
  have : i = 0 ∨ i = 1 ∨ i = 2 ∨ i = 3 ∨ i = 4 := by omega
  rcases this with rfl | rfl | rfl | rfl | rfl
  · exact ⟨r45_0 ok, z46 ok⟩
  · exact ⟨r45_1 ok, z47 ok⟩
  · exact ⟨r45_2 ok, z48 ok⟩
  · exact ⟨r45_3 ok, z49 ok⟩
  · exact ⟨r45_4 ok, z50 ok⟩
theorem at_rx {a k : Nat} (z : AtZ a k) : RX a k := Or.inl z
theorem RcC.at {h' : aM} {p' : Nat} (rc : RcC h B T p s) (so : RsOk s) (a : Ag AtZ h h') (e : gi h' 33 2 = nI p') : RcC h' B T p' s := by
  obtain ⟨r1, r2, r3, r4, r5, r6, r7, r8, r9⟩ := rc
  have l1 := so.1
  have l2 := so.2.1
  refine ⟨r1.ag a (by unfold AtZ; omega) (by unfold AtZ; omega), fun x j h1 h2 => ?_, e, ?_, ?_, ?_, fun k hk => ?_, fun i hi k hk => ?_, fun i hi k hk => ?_⟩
  · rw [a.2 _ _ (by unfold AtZ; omega)]
    exact r2 x j h1 h2
  · rw [a.2 _ _ (by unfold AtZ; omega), r4]
  · rw [a.2 _ _ (by unfold AtZ; omega), r5]
  · rw [a.2 _ _ (by unfold AtZ; omega), r6]
  · rw [a.2 _ _ (by unfold AtZ; omega)]
    exact r7 k hk
  · rw [a.2 _ _ (by unfold AtZ; omega)]
    exact r8 i hi k hk
  · rw [a.2 _ _ (by unfold AtZ; omega)]
    exact r9 i hi k hk
theorem us_ok (κ : Nat) (hκ : κ < 3) : ∀ k, k < mK κ → loK κ k ≤ usK κ k ∧ usK κ k ≤ hiK κ k := by
  have : ∀ κ, κ < 3 → ∀ k, k < mK κ → loK κ k ≤ usK κ k ∧ usK κ k ≤ hiK κ k := by decide +kernel
  exact this κ hκ
theorem rc_wrong {w : Option Value} (rc : RcC h B T p s) (so : RsOk s) (hq : ∀ h', Ag RX h h' → gi h' 33 3 = nI p → Q (some (.int 0)) h') : AW (d + 1) 55 202 [some (.ref 35), w, none] [] h Q := by
  have ok := rc.1.1
  simp (disch := omega) only [s55_202, s55_203, s55_206, s55_209, true_or, or_true, or_false, false_or, or_self, Int32.reduceLT, Int32.reduceLE, Nat.add_zero, Nat.zero_add, Nat.not_lt_zero, not_false_eq_true, not_true_eq_false, and_assoc, kl_q, kl_i, kl_r, kl_n, kl_0, kl_l, cs_0, cs_i, cs_r, cs_n, cs_l, aRf_s, aRf_n, gi_wl, gi_wr, gl_wi, gl_wl, gl_wr, gr_wi, gr_wl, gr_wr, sh_wi, sh_wl, sh_wr, gl_cp, gr_cp, sh_cp, gl_rw, gr_rw, sh_rw, gi_rl, gr_rl, sh_rl, Option.toList_some, Option.toList_none, List.nil_append, List.cons_append, List.append_nil, Option.some.injEq, Prod.mk.injEq, and_true, true_and, and_self, if_true, if_false, reduceCtorEq, Nat.reduceLeDiff, Nat.reduceLT, Nat.reduceAdd, Nat.reduceEqDiff, false_and, and_false, exists_const, exists_eq_left, exists_eq_left', exists_and_left, and_assoc, nltL, nltR, nleL, nleR, neqL, neqR, naL, naR, nmL, nmR, nI_ltI, nI_leI, nI_eq, nI_add, nI_mul, nI_clamp, n0l, n0r, nm1, nm1', nm1l, nm1r, nm1g, nsL, nI_m1, Nat.add_sub_cancel, vpn, vpL, nclL, le32, leLL, leLN, leNL, leNN, inA, nb0, nb1, gi_wi_n, gi_wi_e, gi_rw_n, gi_rw_e, aWi_rw, ifl, ifl_, ifle, ifle_, ifq, ifq_, ifnq, ifnq_, ifnl, ifnl_, ifnle, ifnle_, z35 ok, z33 ok, r35_1 ok]
  refine c_wrong ok rc.2.2.1 (fun h2 a2 g1 g2 => ?_)
  simp (disch := omega) only [s55_202, s55_203, s55_206, s55_209, true_or, or_true, or_false, false_or, or_self, Int32.reduceLT, Int32.reduceLE, Nat.add_zero, Nat.zero_add, Nat.not_lt_zero, not_false_eq_true, not_true_eq_false, and_assoc, kl_q, kl_i, kl_r, kl_n, kl_0, kl_l, cs_0, cs_i, cs_r, cs_n, cs_l, aRf_s, aRf_n, gi_wl, gi_wr, gl_wi, gl_wl, gl_wr, gr_wi, gr_wl, gr_wr, sh_wi, sh_wl, sh_wr, gl_cp, gr_cp, sh_cp, gl_rw, gr_rw, sh_rw, gi_rl, gr_rl, sh_rl, Option.toList_some, Option.toList_none, List.nil_append, List.cons_append, List.append_nil, Option.some.injEq, Prod.mk.injEq, and_true, true_and, and_self, if_true, if_false, reduceCtorEq, Nat.reduceLeDiff, Nat.reduceLT, Nat.reduceAdd, Nat.reduceEqDiff, false_and, and_false, exists_const, exists_eq_left, exists_eq_left', exists_and_left, and_assoc, nb0, nb1]
  exact hq h2 (a2.mono (fun a k z => at_rx z)) g2
end D1
