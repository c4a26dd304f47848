-- deps: 9q.ctor3
/-! ===== the law's start: constructors, then the loop ===== -/
theorem wfE : WfD dE := ⟨rfl, (fun e he => by cases he), (fun e he => by cases he)⟩
theorem mkC_E {b : aM} : mkC b dE = b := by
  unfold mkC dE
  simp only [List.reverse_nil, List.append_nil, Nat.add_zero]
  rfl
set_option maxRecDepth 20000 in
theorem n300_0 {d : Nat} {st : List Value} {h : aM} {Q : Option Value → aM → Prop} {lv : aV} : AW d 300 0 lv st h Q ↔ AW d 300 3 lv (.ref h.1.length :: st) (aNew h (10, 19)) Q := w_st rfl rfl rfl rfl rfl
set_option maxRecDepth 20000 in
theorem n300_8 {d : Nat} {st : List Value} {h : aM} {Q : Option Value → aM → Prop} {lv : aV} : AW d 300 8 lv st h Q ↔ AW d 300 11 lv (.ref h.1.length :: st) (aNew h (11, 50)) Q := w_st rfl rfl rfl rfl rfl
set_option maxRecDepth 20000 in
theorem n300_17 {d : Nat} {st : List Value} {h : aM} {Q : Option Value → aM → Prop} {lv : aV} : AW d 300 17 lv (.int 1 :: st) h Q ↔ AW d 300 19 lv (.ref h.1.length :: st) (aNew h (101, 1)) Q := w_st rfl rfl rfl rfl rfl
theorem ctor_aw {b : aM} {d : Nat} {Q : Option Value → aM → Prop} (wb : WfB b) (w : ∀ c, WfD c → chkD c = true → AW (d + 21) 300 20 [some (.ref 0), some (.ref 32), some (.ref 399), some (.ref 429), none, none, none] [] (mkC b c) Q) : AW (d + 21) 300 0 [some (.ref 0), none, none, none, none, none, none] [] b Q := by
  obtain ⟨c1, c2, e1, l1, e2, l2, e3⟩ := ctorB_ex
  have w0 := wf_new (s := (10, 19)) wfE
  obtain ⟨r1, w1⟩ := dRun_ok wb d _ _ _ _ _ _ _ _ w0 e1
  have w1' := wf_new (s := (11, 50)) w1
  obtain ⟨r2, w2⟩ := dRun_ok wb d _ _ _ _ _ _ _ _ w1' e2
  have w3 := wf_new (s := (101, 1)) w2
  have go := w _ w3 e3
  have g1 : aNew b (10, 19) = mkC b (cNew dE (10, 19)) := by
    have := mkC_new (s := (10, 19)) wb wfE
    rw [mkC_E] at this
    exact this
  refine n300_0.mpr (s300_3.mpr (s300_4.mpr ⟨⟨trivial, Nat.le_of_ble_eq_true rfl⟩, ?_⟩))
  rw [wb.1, g1]
  refine ⟨_, _, _, r1, ?_⟩
  show AW (d + 20 + 1) 300 7 _ [.ref 32] _ _
  refine s300_7.mpr (n300_8.mpr (s300_11.mpr ?_))
  rw [mkC_len wb w1, l1, mkC_new wb w1]
  refine s300_12.mpr ⟨⟨trivial, Nat.le_of_ble_eq_true rfl⟩, ?_⟩
  refine ⟨_, _, _, r2, ?_⟩
  show AW (d + 20 + 1) 300 15 _ [.ref 399] _ _
  refine s300_15.mpr (s300_16.mpr (n300_17.mpr ?_))
  rw [mkC_len wb w2, l2, mkC_new wb w2]
  exact s300_19.mpr go
theorem h0_wf {L : Nat} {xs : Nat → Int32} : WfB (h0 L xs) := ⟨rfl, (fun a k ha => if_neg (by omega)), (fun a k ha => rfl), (fun a k ha => if_neg (by omega))⟩
section ST
variable {L : Nat} {xs : Nat → Int32} {c : dM}
theorem chkD_ex (h : chkD c = true) : c.2.1 = 398 ∧ c.2.2.1 ≤ 100000 ∧ c.1 = (shL.drop 32).reverse ∧ c.2.2.2.1 = ilE ∧ chkR c.2.2.2.2 = true := by
  unfold chkD at h
  simp only [Bool.and_eq_true, decide_eq_true_eq] at h
  exact ⟨h.1.1.1.1, h.1.1.1.2, h.1.1.2, h.1.2, h.2⟩
theorem st_gi (h : chkD c = true) {a k : Nat} : gi (mkC (h0 L xs) c) a k = lkW (h0 L xs).2.2.1 ilE a k := by
  obtain ⟨-, -, -, e, -⟩ := chkD_ex h
  show lkW (h0 L xs).2.2.1 c.2.2.2.1 a k = _
  rw [e]
theorem st_z (h : chkD c = true) {a k : Nat} (ha : 32 ≤ a) (h1 : ¬ (a = 399 ∧ k = 29)) (h2 : ¬ (a = 32 ∧ k = 17)) (h3 : ¬ (a = 342 ∧ k = 13)) (h4 : ¬ (a = 33 ∧ k = 3)) : gi (mkC (h0 L xs) c) a k = 0 := by
  rw [st_gi h]
  unfold ilE
  simp only [lkW, aU]
  rw [if_neg h1, if_neg h2, if_neg h3, if_neg h4]
  exact if_neg (by omega)
theorem st_lo (h : chkD c = true) {a k : Nat} (ha : a < 32) : gi (mkC (h0 L xs) c) a k = oInt xs a k := by
  rw [st_gi h]
  unfold ilE
  simp only [lkW, aU]
  rw [if_neg (by omega), if_neg (by omega), if_neg (by omega), if_neg (by omega)]
  exact if_pos ha
theorem st_ok (h : chkD c = true) : OK (mkC (h0 L xs) c) := by
  obtain ⟨e1, e2, e3, e4, e5⟩ := chkD_ex h
  constructor
  · intro a h1 h2
    show ((oSh L) ++ c.1.reverse)[a]? = some (shp a)
    rw [e3, List.reverse_reverse]
    have hl : (oSh L).length = 32 := rfl
    have hl0 : (oSh 0).length = 32 := rfl
    by_cases h3 : a < 32
    · rw [List.getElem?_append_left (by omega)]
      have := chkS_ok
      unfold chkS at this
      rw [List.all_eq_true] at this
      have e0 : (oSh L)[a]? = (oSh 0)[a]? := by
        obtain ⟨j, rfl⟩ : ∃ j, a = j + 1 := ⟨a - 1, by omega⟩
        rfl
      rw [e0]
      have hx : (oSh 0)[a]? = some ((oSh 0)[a]'(by omega)) := List.getElem?_eq_getElem _
      rw [hx]
      have := of_decide_eq_true (this ((oSh 0)[a]'(by omega), a) (List.mk_mem_zipIdx_iff_getElem?.mpr hx))
      unfold shp
      rw [List.getD_eq_getElem?_getD, this]
      rfl
    · rw [List.getElem?_append_right (by omega), hl, List.getElem?_drop, show 32 + (a - 32) = a by omega]
      unfold shp
      rw [List.getD_eq_getElem?_getD]
      have : a < shL.length := by
        rw [show shL.length = 430 by decide +kernel]
        exact h2
      rw [List.getElem?_eq_getElem this]
      rfl
  · intro a k hr
    show lkW (h0 L xs).2.2.2.2 c.2.2.2.2 a k = rft a k
    unfold chkR at e5
    rw [List.all_eq_true] at e5
    unfold rft at hr ⊢
    cases ea : rfL[a]? with
    | none =>
      rw [List.getD_eq_getElem?_getD, List.getD_eq_getElem?_getD, ea] at hr
      exact absurd rfl hr
    | some row =>
      rw [List.getD_eq_getElem?_getD, List.getD_eq_getElem?_getD, ea] at hr ⊢
      simp only [Option.getD_some] at hr ⊢
      have q := e5 (row, a) (List.mk_mem_zipIdx_iff_getElem?.mpr ea)
      simp only at q
      rw [List.all_eq_true] at q
      cases ek : row[k]? with
      | none =>
        rw [ek] at hr
        exact absurd rfl hr
      | some o =>
        have q2 := q (o, k) (List.mk_mem_zipIdx_iff_getElem?.mpr ek)
        simp only [Bool.or_eq_true, decide_eq_true_eq] at q2
        rw [ek] at hr
        simp only [Option.getD_some] at hr ⊢
        rcases q2 with q2 | q2
        · rw [Option.isNone_iff_eq_none] at q2
          exact absurd q2 hr
        · exact q2
theorem st_inv (h : chkD c = true) : Inv (mkC (h0 L xs) c) := by
  have z : ∀ {a k : Nat}, 32 ≤ a → ¬ (a = 399 ∧ k = 29) → ¬ (a = 32 ∧ k = 17) → ¬ (a = 342 ∧ k = 13) → ¬ (a = 33 ∧ k = 3) → gi (mkC (h0 L xs) c) a k = 0 := fun p q r s t => st_z h p q r s t
  have n0 : nI 0 = 0 := rfl
  have sm0 : sm 0 := ⟨by decide, by decide⟩
  have v17 : gi (mkC (h0 L xs) c) 32 17 = -1 := by
    rw [st_gi h]
    rfl
  have v29 : gi (mkC (h0 L xs) c) 399 29 = -1 := by
    rw [st_gi h]
    rfl
  refine ⟨0, 0, 0, 0, 0, 0, 0, 0, 0, 0, fun _ => 0, fun _ _ => 0, fun _ _ => 0, fun _ => 0, st_ok h, ?_, ?_, ?_, ⟨?_, ?_, ?_⟩, ⟨?_, ?_⟩, ?_, ?_, ?_, ?_, ?_, ?_, ?_⟩
  · refine ⟨by omega, by omega, by omega, by omega, fun q => absurd q (by omega), ?_, ?_, ?_, ?_, ?_, ?_, ?_, ?_, fun k q => absurd q (by omega), fun k q => absurd q (by omega), fun i j q => absurd q (by omega)⟩ <;> exact z (by omega) (by omega) (by omega) (by omega) (by omega)
  · refine ⟨fun k q => absurd q (by omega), fun k q => absurd q (by omega), ?_, ?_, fun q => absurd q (by omega), ?_⟩
    · rw [z (a := 73) (by omega) (by omega) (by omega) (by omega) (by omega), z (by omega) (by omega) (by omega) (by omega) (by omega)]
    · rw [z (a := 73) (by omega) (by omega) (by omega) (by omega) (by omega), z (by omega) (by omega) (by omega) (by omega) (by omega)]
    · rw [z (by omega) (by omega) (by omega) (by omega) (by omega)]
      exact sm0
  · refine ⟨by omega, z (by omega) (by omega) (by omega) (by omega) (by omega), z (by omega) (by omega) (by omega) (by omega) (by omega), fun i q => absurd q (by omega), by rw [v17, v29], Or.inl v29⟩
  · refine ⟨fun k q => absurd q (by omega), fun k q => absurd q (by omega), ?_, ?_, ?_, ?_⟩ <;> exact z (by omega) (by omega) (by omega) (by omega) (by omega)
  · exact ⟨z (by omega) (by omega) (by omega) (by omega) (by omega), z (by omega) (by omega) (by omega) (by omega) (by omega), fun i q => absurd q (by omega)⟩
  · exact fun e q => absurd q (by omega)
  · exact ⟨fun k q => z (by omega) (by omega) (by omega) (by omega) (by omega), z (by omega) (by omega) (by omega) (by omega) (by omega), fun e q => absurd q (by omega)⟩
  · exact ⟨z (by omega) (by omega) (by omega) (by omega) (by omega), fun i q => absurd q (by omega)⟩
  · exact ⟨fun k q => absurd q (by omega), fun q => absurd q (by omega), sm0, rfl, by omega⟩
  · exact ⟨by omega, by omega, fun i q => absurd q (by omega), rfl, fun i q => absurd q (by omega)⟩
  · refine ⟨?_, Or.inl (z (by omega) (by omega) (by omega) (by omega) (by omega))⟩
    rw [z (a := 32) (by omega) (by omega) (by omega) (by omega) (by omega), z (by omega) (by omega) (by omega) (by omega) (by omega)]
  · exact ⟨by omega, z (by omega) (by omega) (by omega) (by omega) (by omega), z (by omega) (by omega) (by omega) (by omega) (by omega), fun i q => absurd q (by omega)⟩
  · exact ⟨by omega, z (by omega) (by omega) (by omega) (by omega) (by omega), z (by omega) (by omega) (by omega) (by omega) (by omega), fun i q => absurd q (by omega)⟩
  · intro a j h1 h2
    rw [st_lo h (by omega)]
    have : a = 1 ∨ a = 2 ∨ a = 3 ∨ a = 4 ∨ a = 5 ∨ a = 6 ∨ a = 7 ∨ a = 8 ∨ a = 9 ∨ a = 10 ∨ a = 11 ∨ a = 12 ∨ a = 13 ∨ a = 14 ∨ a = 15 ∨ a = 16 ∨ a = 17 := by omega
    rcases this with rfl | rfl | rfl | rfl | rfl | rfl | rfl | rfl | rfl | rfl | rfl | rfl | rfl | rfl | rfl | rfl | rfl <;> rfl
  · refine ⟨fun k q => ?_, ?_⟩
    · rw [z (a := 371) (by omega) (by omega) (by omega) (by omega) (by omega), z (by omega) (by omega) (by omega) (by omega) (by omega)]
    · rw [z (a := 32) (by omega) (by omega) (by omega) (by omega) (by omega), z (by omega) (by omega) (by omega) (by omega) (by omega)]
end ST
/-- what the JVM's side asks of AM -/
def aGoal : Prop := ∀ (L : Nat) (xs : Nat → Int32), L ≤ 3072 → ∃ n d h', d ≤ 1000 ∧ aRun aMI aCD aPM n d 300 0 (aArg 7 [.ref 0]) [] (h0 L xs) = some (some (.int 1), h') ∧ h'.1.length ≤ 601056 ∧ h'.2.1 ≤ 7293034
theorem aGoal_ok : aGoal := by
  intro L xs hL
  have w : AW (110 + 21) 300 0 [some (.ref 0), none, none, none, none, none, none] [] (h0 L xs) (fun v h' => v = some (.int 1) ∧ h'.1.length ≤ 601056 ∧ h'.2.1 ≤ 7293034) := by
    refine ctor_aw h0_wf (fun c wc hc => ?_)
    refine s300_20.mpr (s300_21.mpr ?_)
    refine (law_loop (d := 0) (L := L) hL 512 0 (mkC (h0 L xs) c) none none (by omega) (by omega) (st_inv hc) rfl).mono ?_
    rintro v h' ⟨e, e1, e2⟩
    obtain ⟨f1, f2, -⟩ := chkD_ex hc
    rw [mkC_len h0_wf wc] at e1
    have e3 : (mkC (h0 L xs) c).2.1 = c.2.2.1 := Nat.zero_add _
    exact ⟨e, by omega, by omega⟩
  obtain ⟨n, v, h', hr, rfl, e1, e2⟩ := w
  exact ⟨n, _, h', by omega, hr, e1, e2⟩
