/-! ===== AM and the JVM: how their states belong together ===== -/
/-- class numbers and slots, array classes by kind, the old cells' addresses, where the new cells begin -/
abbrev aE : Type := va_G × (Nat → ClassId) × (Nat → Nat) × Nat
/-- the old cells: shapes, ints, references -/
abbrev aOl : Type := (Nat → Option (Nat × Nat)) × (Nat → Nat → Int32) × (Nat → Nat → Option Nat)
def aAd (E : aE) (i : Nat) : Nat := if i < aK then E.2.2.1 i else E.2.2.2 + (i - aK)
def aTv (E : aE) : Value → Value
  | .ref i => .ref (aAd E i)
  | v => v
def aNw (E : aE) : Nat → Prop := fun q => E.2.2.2 ≤ q
theorem aAd_new (E : aE) {i : Nat} (h : aK ≤ i) : aAd E i = E.2.2.2 + (i - aK) := by
  unfold aAd
  rw [if_neg (by omega)]
theorem aAd_nw (E : aE) {i : Nat} (h : aK ≤ i) : aNw E (aAd E i) := by
  rw [aAd_new E h]
  exact Nat.le_add_right _ _
theorem aAd_inj (E : aE) {i j : Nat} (hi : aK ≤ i) (hj : aK ≤ j) (h : aAd E i = aAd E j) : i = j := by
  rw [aAd_new E hi, aAd_new E hj] at h
  omega
theorem aTv_cat (E : aE) (v : Value) : (aTv E v).category = v.category := by cases v <;> rfl
theorem aTv_int (E : aE) (x : Int32) : aTv E (.int x) = .int x := rfl
theorem aTv_long (E : aE) (x : Int64) : aTv E (.long x) = .long x := rfl
theorem aTv_rf (E : aE) (r : Option Nat) : aTv E (aRf r) = va_rf (r.map (aAd E)) := by cases r <;> rfl
def aCv (E : aE) (h : aM) (i : Nat) (sh : Nat × Nat) (k : Nat) : Value := aTv E (aRd h (aKd sh k) i k)
def aCell (E : aE) (h : aM) (i : Nat) (sh : Nat × Nat) (H : Heap) : Prop :=
  (sh.1 < 90 → ∃ r : vw_C, aCl[sh.1]? = some r ∧ sh.2 = r.2.2 ∧ t_OB (aAd E i) (E.1.1 sh.1) r.2.2 (E.1.2 sh.1) H (aCv E h i sh)) ∧
  (100 ≤ sh.1 → H[aAd E i]? = some (arrV (E.2.1 sh.1) sh.2 (aCv E h i sh)))
def aR (E : aE) (O : aOl) (h : aM) (H : Heap) : Prop :=
  aK ≤ h.1.length ∧ H.size + aK = E.2.2.2 + h.1.length ∧ (∀ i, i < aK → h.1[i]? = O.1 i ∧ ∀ j, h.2.2.1 i j = O.2.1 i j ∧ h.2.2.2.2 i j = O.2.2 i j) ∧
  (∀ (i : Nat) (sh : Nat × Nat), aK ≤ i → h.1[i]? = some sh → aCell E h i sh H) ∧ ∀ (i : Nat) (sh : Nat × Nat), aK ≤ i → h.1[i]? = some sh → sh.1 ≠ 103
theorem aCell.kept {E : aE} {h h' : aM} {i : Nat} {sh : Nat × Nat} {H H' : Heap} (c : aCell E h i sh H) (hq : H'[aAd E i]? = H[aAd E i]?) (hv : ∀ k, k < sh.2 → aCv E h' i sh k = aCv E h i sh k) : aCell E h' i sh H' := by
  refine ⟨fun h1 => ?_, fun h1 => ?_⟩
  · obtain ⟨r, r1, r2, r3⟩ := c.1 h1
    exact ⟨r, r1, r2, (r3.kept hq).to (fun k hk => (hv k (by rw [r2]; exact hk)).symm)⟩
  · rw [hq, c.2 h1]
    congr 1
    unfold arrV
    congr 1
    apply Array.ext
    · simp
    · intro k h1 h2
      simp
      exact (hv k (by simpa using h1)).symm
/-- a cell changes at one place -/
theorem aR.put {E : aE} {O : aOl} {h h' : aM} {H H' : Heap} {a : Nat} {sh : Nat × Nat} (R0 : aR E O h H) (ha : aK ≤ a) (hs : h.1[a]? = some sh) (e1 : h'.1 = h.1) (hold : ∀ b k, b ≠ a → h'.2.2.1 b k = h.2.2.1 b k ∧ h'.2.2.2.1 b k = h.2.2.2.1 b k ∧ h'.2.2.2.2 b k = h.2.2.2.2 b k)
    (hz : H'.size = H.size) (oq : ∀ q, q ≠ aAd E a → H'[q]? = H[q]?) (hc : aCell E h' a sh H') : aR E O h' H' := by
  obtain ⟨r1, r2, r3, r4, r5⟩ := R0
  refine ⟨by rw [e1]; exact r1, by rw [e1, hz]; exact r2, fun i hi => ?_, fun i sh' hi hsh => ?_, by rw [e1]; exact r5⟩
  · rw [e1]
    refine ⟨(r3 i hi).1, fun j => ?_⟩
    have hne : i ≠ a := by omega
    rw [(hold i j hne).1, (hold i j hne).2.2]
    exact (r3 i hi).2 j
  · rw [e1] at hsh
    by_cases hia : i = a
    · subst hia
      rw [hs] at hsh
      cases hsh
      exact hc
    · refine (r4 i sh' hi hsh).kept (oq _ (fun q => hia (aAd_inj E hi ha q))) (fun k _ => ?_)
      unfold aCv aRd
      split <;> simp [hold i k hia]
/-! locals -/
def aLR (E : aE) (ls : Array Slot) (lv : aV) : Prop := ls.size = lv.length ∧ lv_wf ls ∧ ∀ (i : Nat) (v : Value), lv[i]? = some (some v) → ls[i]? = some (.val (aTv E v))
def aLs (E : aE) (lv : aV) : List (Nat × Value) := (List.range lv.length).filterMap (fun i => match lv[i]? with
  | some (some v) => some (i, aTv E v)
  | _ => none)
theorem aLs_mem {E : aE} {lv : aV} {i : Nat} {w : Value} : (i, w) ∈ aLs E lv ↔ ∃ v, lv[i]? = some (some v) ∧ w = aTv E v := by
  unfold aLs
  rw [List.mem_filterMap]
  constructor
  · rintro ⟨j, -, hj⟩
    split at hj
    · rename_i v hv
      cases hj
      exact ⟨v, hv, rfl⟩
    · cases hj
  · rintro ⟨v, hv, rfl⟩
    refine ⟨i, List.mem_range.mpr (List.getElem?_eq_some_iff.mp hv).1, ?_⟩
    rw [hv]
theorem aLR.has {E : aE} {ls : Array Slot} {lv : aV} (h : aLR E ls lv) : lv_has ls lv.length (aLs E lv) := by
  refine ⟨h.1, h.2.1, fun q hq => ?_⟩
  obtain ⟨v, hv, e⟩ := aLs_mem.mp (show (q.1, q.2) ∈ aLs E lv from hq)
  rw [e]
  exact h.2.2 _ v hv
theorem aKill_len (lv : aV) (i : Nat) : (aKill lv i).length = lv.length := by
  unfold aKill
  split
  · rfl
  · split <;> simp
theorem aKill_at {lv : aV} {i j : Nat} {v : Value} (h : (aKill lv i)[j]? = some (some v)) : lv[j]? = some (some v) ∧ ¬ (j + 1 = i ∧ v.category = 2) := by
  unfold aKill at h
  split at h
  · exact ⟨h, by omega⟩
  · rename_i j0
    split at h
    · by_cases hj : j = j0
      · subst hj
        rw [List.getElem?_set] at h
        simp at h
      · rw [List.getElem?_set_ne (Ne.symm hj)] at h
        exact ⟨h, by omega⟩
    · by_cases hj : j = j0
      · subst hj
        rw [List.getElem?_set] at h
        simp at h
      · rw [List.getElem?_set_ne (Ne.symm hj)] at h
        exact ⟨h, by omega⟩
    · rename_i n1 n2
      refine ⟨h, fun q => ?_⟩
      have hj : j = j0 := by omega
      subst hj
      cases v <;> simp [Value.category] at q
      · exact n1 _ h
      · exact n2 _ h
theorem aLR.of1 {E : aE} {ls' : Array Slot} {lv : aV} {i : Nat} {v : Value} (hi : i < lv.length) (h : lv_has ls' lv.length ((i, aTv E v) :: (aLs E lv).filter (fun q => !(q.1 == i) && !(q.1 + 1 == i && q.2.category == 2)))) : aLR E ls' (aSt1 lv i v) := by
  obtain ⟨h1, h2, h3⟩ := h
  refine ⟨by rw [h1]; unfold aSt1; simp [aKill_len], h2, fun j w hj => ?_⟩
  unfold aSt1 at hj
  by_cases hji : j = i
  · subst hji
    rw [List.getElem?_set_self (by rw [aKill_len]; exact hi)] at hj
    cases hj
    exact h3 (j, aTv E v) List.mem_cons_self
  · rw [List.getElem?_set_ne (Ne.symm hji)] at hj
    obtain ⟨a1, a2⟩ := aKill_at hj
    refine h3 (j, aTv E w) (List.mem_cons_of_mem _ (List.mem_filter.mpr ⟨aLs_mem.mpr ⟨w, a1, rfl⟩, ?_⟩))
    simp [hji, aTv_cat]
    exact Decidable.not_and_iff_or_not.mp a2
theorem aLR.of2 {E : aE} {ls' : Array Slot} {lv : aV} {i : Nat} {v : Value} (hi : i + 1 < lv.length) (h : lv_has ls' lv.length ((i, aTv E v) :: (aLs E lv).filter (fun q => !(q.1 == i) && (!(q.1 == i + 1) && !(q.1 + 1 == i && q.2.category == 2))))) : aLR E ls' (aSt2 lv i v) := by
  obtain ⟨h1, h2, h3⟩ := h
  refine ⟨by rw [h1]; unfold aSt2; simp [aKill_len], h2, fun j w hj => ?_⟩
  unfold aSt2 at hj
  by_cases hj1 : j = i + 1
  · subst hj1
    rw [List.getElem?_set_self (by simp [aKill_len]; exact hi)] at hj
    cases hj
  · rw [List.getElem?_set_ne (Ne.symm hj1)] at hj
    by_cases hji : j = i
    · subst hji
      rw [List.getElem?_set_self (by rw [aKill_len]; omega)] at hj
      cases hj
      exact h3 (j, aTv E v) List.mem_cons_self
    · rw [List.getElem?_set_ne (Ne.symm hji)] at hj
      obtain ⟨a1, a2⟩ := aKill_at hj
      refine h3 (j, aTv E w) (List.mem_cons_of_mem _ (List.mem_filter.mpr ⟨aLs_mem.mpr ⟨w, a1, rfl⟩, ?_⟩))
      simp [hji, hj1, aTv_cat]
      exact Decidable.not_and_iff_or_not.mp a2
/-- a method's entry -/
def aArg (n : Nat) (as : List Value) : aV := (as.flatMap fun v => if v.category = 2 then [some v, none] else [some v]) ++ List.replicate (n - (as.flatMap fun v => if v.category = 2 then [some v, none] else [some v]).length) none
theorem aArg_sl (E : aE) (as : List Value) : (lg_sl (as.map (aTv E))).length = (as.flatMap fun v => if v.category = 2 then [some v, none] else [some v]).length := by
  induction as with
  | nil => rfl
  | cons v t ih =>
    simp only [lg_sl, List.map_cons, List.flatMap_cons, List.length_append, aTv_cat] at ih ⊢
    rw [ih]
    by_cases h : v.category = 2 <;> simp [h]
theorem aArg_at (E : aE) (as : List Value) : ∀ (i : Nat) (v : Value), (as.flatMap fun v => if v.category = 2 then [some v, none] else [some v])[i]? = some (some v) → (lg_sl (as.map (aTv E)))[i]? = some (.val (aTv E v)) := by
  induction as with
  | nil => intro i v h; simp at h
  | cons w t ih =>
    intro i v h
    simp only [lg_sl, List.map_cons, List.flatMap_cons, aTv_cat] at ih h ⊢
    by_cases hw : w.category = 2
    · simp only [hw, if_true] at h ⊢
      cases i with
      | zero => simp at h; subst h; simp
      | succ i =>
        cases i with
        | zero => simp at h
        | succ i => simp at h ⊢; exact ih i v h
    · simp only [hw, if_false] at h ⊢
      cases i with
      | zero => simp at h; subst h; simp
      | succ i => simp at h ⊢; exact ih i v h
theorem aLR.entry (E : aE) (as : List Value) {n : Nat} (h : (as.flatMap fun v => if v.category = 2 then [some v, none] else [some v]).length ≤ n) : aLR E ((lg_sl (as.map (aTv E)) ++ List.replicate (n - (lg_sl (as.map (aTv E))).length) Slot.unset).toArray) (aArg n as) := by
  have hl := lv_entry (as.map (aTv E)) (n := n) (by rw [aArg_sl]; exact h)
  refine ⟨by rw [hl.1]; unfold aArg; rw [List.length_append, List.length_replicate]; omega, hl.2.1, fun i v hv => ?_⟩
  unfold aArg at hv
  by_cases hi : i < (as.flatMap fun v => if v.category = 2 then [some v, none] else [some v]).length
  · rw [List.getElem?_append_left hi] at hv
    have h2 := aArg_at E as i v hv
    simp only [List.getElem?_toArray]
    rw [List.getElem?_append_left (by rw [aArg_sl]; exact hi)]
    exact h2
  · rw [List.getElem?_append_right (by omega), List.getElem?_replicate] at hv
    split at hv <;> simp at hv
