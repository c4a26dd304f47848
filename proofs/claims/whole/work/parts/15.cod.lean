/-! ===== every instruction of the code tables: decoded so, and its links stand in the tables ===== -/
def lenB (ins : Instr) (n : Nat) : Bool := match ins with
  | .tableswitch _ _ _ _ => true
  | .lookupswitch _ _ => true
  | _ => decide (n = aLn ins)
theorem lenB_ok {ins : Instr} {n : Nat} (h : lenB ins n = true) : n = aLn ins ∨ (∃ a b c d, ins = .tableswitch a b c d) ∨ ∃ a b, ins = .lookupswitch a b := by
  cases ins <;> first | exact Or.inr (Or.inl ⟨_, _, _, _, rfl⟩) | exact Or.inr (Or.inr ⟨_, _, rfl⟩) | exact Or.inl (by simpa [lenB] using h)
def finB (o c k : Nat) (ini : Bool) : Bool := match aCl[c]? with
  | some r => !(r.2.1 k).2.2.2 || (ini && decide (c = o))
  | none => false
def cB (o : Nat) (ini : Bool) (ins : Instr) (r1 r2 r3 : Nat) : Bool := match ins with
  | .getfield i => decide ((o, i, r1, r2, r3) ∈ aFT)
  | .putfield i => decide ((o, i, r1, r2, r3) ∈ aFT) && finB o r1 r2 ini
  | .getstatic i => decide ((o, i, r1, r2) ∈ aGT)
  | .ldc i => (decide (r1 = 0) && decide ((o, i, r2) ∈ aCT)) || (decide (r1 = 1) && decide ((o, i, r2) ∈ aLT))
  | .ldc_w i => decide ((o, i, r2) ∈ aCT)
  | .ldc2_w i => decide ((o, i, r2) ∈ aQT)
  | .new i => decide ((o, i, r1) ∈ aNT)
  | .newarray ty => (decide (ty = .int) && decide (r1 = 100)) || ((decide (ty = .long) && decide (r1 = 101)) || (decide (ty = .boolean) && decide (r1 = 102)))
  | .anewarray i => decide ((o, i, r1) ∈ aAT) && decide (r1 ≠ 104)
  | .multianewarray i d => decide (d = 2) && decide ((o, i, 104) ∈ aAT)
  | .aastore => (decide (r1 = 105) && decide (r2 = 3)) || (decide (r1 = 106) && decide (r2 = 7))
  | .invokevirtual i => decide ((o, i, 0, r1, r2, r3) ∈ aMT)
  | .invokestatic i => decide ((o, i, 1, r1, r2, r3) ∈ aMT)
  | .invokespecial i => decide ((o, i, 2, r1, r2, r3) ∈ aMT)
  | _ => true
/-- only a method's class counts, but for stores into final fields -/
theorem aVal_cls {mi : aMi} {y z : MethodName} {ins : Instr} {r1 r2 r3 : Nat} (h : y.cls = z.cls) (hp : ∀ i, ins ≠ .putfield i) (hv : aVal mi y ins r1 r2 r3) : aVal mi z ins r1 r2 r3 := by
  cases ins <;> simp only [aVal] at hv ⊢ <;> first | exact trivial | exact hv | (rw [← h]; exact hv) | exact absurd rfl (hp _)
theorem cB_ok {o : Nat} {ini : Bool} {ins : Instr} {r1 r2 r3 : Nat} {y : MethodName} (hy : y.cls = ow o) (hi : ini = true → y.name = "<init>") (h : cB o ini ins r1 r2 r3 = true) : aVal aMI y ins r1 r2 r3 := by
  have hc : ∀ {ins : Instr} {r1 r2 r3 : Nat}, (∀ i, ins ≠ .putfield i) → aVal aMI ⟨ow o, "", ""⟩ ins r1 r2 r3 → aVal aMI y ins r1 r2 r3 := fun hp hv => aVal_cls (y := ⟨ow o, "", ""⟩) hy.symm hp hv
  cases ins <;> simp only [cB, Bool.and_eq_true, Bool.or_eq_true, decide_eq_true_eq] at h
  case getfield i => exact hc (fun _ q => by cases q) (aFT_all _ h)
  case putfield i =>
    have hv : aVal aMI y (.getfield i) r1 r2 r3 := hc (fun _ q => by cases q) (aFT_all _ h.1)
    have hf := h.2
    unfold finB at hf
    split at hf
    · rename_i r hr
      have hlt := (List.getElem?_eq_some_iff.mp hr).1
      rcases hv with ⟨r', e1, e2, e3⟩ | ⟨rfl, -⟩
      · cases hr.symm.trans e1
        refine ⟨r, hr, e2, e3, ?_⟩
        simp only [Bool.or_eq_true, Bool.not_eq_true', Bool.and_eq_true, decide_eq_true_eq] at hf
        rcases hf with hf | ⟨hf, rfl⟩
        · exact Or.inl hf
        · refine Or.inr ⟨hi hf, ?_⟩
          rw [hy]
          have hd : ∀ (c : Nat), c < 12 → ∀ k, (match aCl[c]? with
              | some r => (r.2.1 k).1
              | none => "") = ow c := by
            intro c hc12 k
            rcases (by omega : c = 0 ∨ c = 1 ∨ c = 2 ∨ c = 3 ∨ c = 4 ∨ c = 5 ∨ c = 6 ∨ c = 7 ∨ c = 8 ∨ c = 9 ∨ c = 10 ∨ c = 11) with rfl | rfl | rfl | rfl | rfl | rfl | rfl | rfl | rfl | rfl | rfl | rfl
            · show (aT0 k).1 = _; unfold aT0; split <;> rfl
            · show (aT1 k).1 = _; unfold aT1; split <;> rfl
            · show (aT2 k).1 = _; unfold aT2; split <;> rfl
            · show (aT3 k).1 = _; unfold aT3; split <;> rfl
            · show (aT4 k).1 = _; unfold aT4; split <;> rfl
            · show (aT5 k).1 = _; unfold aT5; split <;> rfl
            · show (aT6 k).1 = _; unfold aT6; split <;> rfl
            · show (aT7 k).1 = _; unfold aT7; split <;> rfl
            · show (aT8 k).1 = _; unfold aT8; split <;> rfl
            · show (aT9 k).1 = _; unfold aT9; split <;> rfl
            · show (aT10 k).1 = _; unfold aT10; split <;> rfl
            · show (aT11 k).1 = _; unfold aT11; split <;> rfl
          have h9 := hd r1 (by simpa [aCl] using hlt) r2
          rw [hr] at h9
          exact h9
      · simp [aCl] at hlt
    · cases hf
  case getstatic i => exact hc (fun _ q => by cases q) (aGT_all _ h)
  case ldc i =>
    rcases h with ⟨h0, h⟩ | ⟨h0, h⟩
    · refine Or.inl ⟨h0, ?_⟩
      rw [hy]
      exact aCT_all _ h
    · refine Or.inr ⟨h0, ?_⟩
      rw [hy]
      exact aLT_all _ h
  case ldc_w i =>
    show Cond.constant y.cls i (nI r2) ∈ aWs
    rw [hy]
    exact aCT_all _ h
  case ldc2_w i =>
    show Cond.constantLong y.cls i (lN r2) ∈ aWs
    rw [hy]
    exact aQT_all _ h
  case new i => exact hc (r2 := 0) (r3 := 0) (fun _ q => by cases q) (aNT_all _ h)
  case newarray ty =>
    refine ⟨h, ?_⟩
    rcases h with ⟨rfl, -⟩ | ⟨rfl, -⟩ | ⟨rfl, -⟩
    · exact arrW.1
    · exact arrW.2.1
    · exact arrW.2.2
  case anewarray i =>
    obtain ⟨a1, a2⟩ := aAT_all _ h.1
    rcases a2 with a2 | a2 | a2
    · exact absurd a2 h.2
    · simp only at a2
      subst a2
      exact Or.inl ⟨rfl, by rw [hy]; exact a1⟩
    · simp only at a2
      subst a2
      exact Or.inr ⟨rfl, by rw [hy]; exact a1⟩
  case multianewarray i d =>
    obtain ⟨a1, -⟩ := aAT_all _ h.2
    exact ⟨h.1, by rw [hy]; exact a1, arrW.1⟩
  case aastore => exact h
  case invokevirtual i => exact hc (fun _ q => by cases q) (aMT_all _ h)
  case invokestatic i => exact hc (fun _ q => by cases q) (aMT_all _ h)
  case invokespecial i => exact hc (fun _ q => by cases q) (aMT_all _ h)
  all_goals exact trivial
def rowB (o : Nat) (ini : Bool) (b : ByteArray) (pc : Nat) (e : Option aI) : Bool := match e with
  | none => true
  | some (ins, n, r1, r2, r3) => decide (decode b pc = .ok (ins, n)) && (lenB ins n && cB o ini ins r1 r2 r3)
def codeB (o : Nat) (ini : Bool) (b : ByteArray) : Nat → List (Option aI) → Bool
  | _, [] => true
  | pc, e :: l => rowB o ini b pc e && codeB o ini b (pc + 1) l
theorem codeB_at {o : Nat} {ini : Bool} {b : ByteArray} : ∀ {l : List (Option aI)} {q : Nat}, codeB o ini b q l = true → ∀ {i : Nat} {e : Option aI}, l[i]? = some e → rowB o ini b (q + i) e = true
  | [], _, _, _, _, h => by simp at h
  | a :: l, q, hc, 0, e, h => by
    simp only [codeB, Bool.and_eq_true] at hc
    simp at h
    subst h
    exact hc.1
  | a :: l, q, hc, i + 1, e, h => by
    simp only [codeB, Bool.and_eq_true] at hc
    rw [List.getElem?_cons_succ] at h
    have := codeB_at hc.2 h
    rw [show q + (i + 1) = q + 1 + i by omega]
    exact this
theorem codeB_app {o : Nat} {ini : Bool} {b : ByteArray} : ∀ {l l2 : List (Option aI)} {q : Nat}, codeB o ini b q l = true → codeB o ini b (q + l.length) l2 = true → codeB o ini b q (l ++ l2) = true
  | [], l2, q, _, h2 => by simpa using h2
  | a :: l, l2, q, h1, h2 => by
    simp only [codeB, Bool.and_eq_true, List.cons_append] at h1 ⊢
    refine ⟨h1.1, codeB_app h1.2 ?_⟩
    rw [List.length_cons] at h2
    rw [show q + 1 + l.length = q + (l.length + 1) by omega]
    exact h2
/-- a method's code is as the tables say -/
def cOkM (k : Nat) (l : List (Option aI)) : Prop := ∃ y b mL rt o ini, aMI k = some (y, b, mL, rt) ∧ y.cls = ow o ∧ (ini = true → y.name = "<init>") ∧ codeB o ini b 0 l = true
theorem aOk_of (h : ∀ k l, (if k = 300 then some ac300 else aCode[k]?) = some l → cOkM k l) : aOk aMI aCD := by
  intro k pc ins n r1 r2 r3 hcd
  unfold aCD at hcd
  split at hcd
  · rename_i l hl
    split at hcd
    · rename_i i hi
      cases hcd
      obtain ⟨y, b, mL, rt, o, ini, h1, h2, h3, h4⟩ := h k l hl
      have hr := codeB_at h4 hi
      rw [Nat.zero_add] at hr
      simp only [rowB, Bool.and_eq_true, decide_eq_true_eq] at hr
      exact ⟨y, b, mL, rt, h1, hr.1, lenB_ok hr.2.1, cB_ok h2 h3 hr.2.2⟩
    · cases hcd
  · cases hcd
