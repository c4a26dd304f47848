/-! ===== AM and the JVM: what stays the same of a state, and instructions on the heap ===== -/
def aTyp (t : Nat) : FieldType := match t with
  | 100 => .int
  | 101 => .long
  | 102 => .boolean
  | 103 => .byte
  | 104 => .array .int
  | 105 => .object "GallopDispatch$Law"
  | _ => .object "GallopDispatch$State"
def aTys (E : aE) : List (ClassId × FieldType) := [(E.2.1 100, .int), (E.2.1 101, .long), (E.2.1 102, .boolean), (E.2.1 104, .array .int), (E.2.1 105, .object "GallopDispatch$Law"), (E.2.1 106, .object "GallopDispatch$State")]
/-- static fields: declaring class, name, descriptor; 0 and a number, or 1 and an old cell -/
def aStats : List (String × String × String × Nat × Nat) := [("GallopDispatch$RideReader", "RULE_USUAL", "[I", 1, 1), ("GallopDispatch$RideReader", "RULE_LEAST", "[I", 1, 2), ("GallopDispatch$RideReader", "RULE_MOST", "[I", 1, 3),
  ("GallopDispatch$RideReader", "MAN_USUAL", "[I", 1, 4), ("GallopDispatch$RideReader", "MAN_LEAST", "[I", 1, 5), ("GallopDispatch$RideReader", "MAN_MOST", "[I", 1, 6),
  ("GallopDispatch$RideReader", "FORD_USUAL", "[I", 1, 7), ("GallopDispatch$RideReader", "FORD_LEAST", "[I", 1, 8), ("GallopDispatch$RideReader", "FORD_MOST", "[I", 1, 9), ("java/lang/String", "COMPACT_STRINGS", "Z", 0, 1)]
/-- String constants: whose, where, which, its old cell -/
def aStrs : List (String × Nat × String × Nat) := [("GallopDispatch$RideReader", 73, "lpwmc", 10), ("GallopDispatch$RideReader", 92, "xver", 11), ("GallopDispatch$RideReader", 106, "xd", 12), ("GallopDispatch$LawReader", 110, "vdpmrn", 13)]
/-- the links to private members of nest mates -/
def isNest (w : Cond) : Bool := match w with
  | .methodLinkNest _ _ _ _ => true
  | _ => false
def aNests : List Cond := tables_1.filter isNest
/-- what a throw of the class needs of a state: statics of Throwable, the text, the class that is caught -/
def aXt (E : aE) (s : State) : Prop := vx_Zq Bundle.tN "UNASSIGNED_STACK" Bundle.steD (aNw E) s s.heap ∧ vx_Zq Bundle.tN "SUPPRESSED_SENTINEL" Bundle.listD (aNw E) s s.heap ∧ (∃ sa, vk_R "GallopDispatch" 186 "no such MAN, or no such thing of him" sa s) ∧ va_Nw (.castable "java/util/NoSuchElementException" "java/util/NoSuchElementException") s
def aKS (E : aE) (O : aOl) (s : State) : Prop :=
  va_K E.1 aCl (aTys E) s ∧ E.2.2.2 ≤ s.heap.size ∧
  (∀ (i : Nat) (sh : Nat × Nat), i < aK → O.1 i = some sh → (sh.1 = 12 ∨ sh.1 = 100 ∨ sh.1 = 103) ∧ ¬ aNw E (aAd E i)) ∧
  (∀ (i : Nat) (sh : Nat × Nat), i < aK → O.1 i = some sh → 100 ≤ sh.1 → va_T (aTyp sh.1) (aAd E i) sh.2 (fun j => .int (O.2.1 i j)) (aNw E) s s.heap) ∧
  (∀ (i : Nat) (sh : Nat × Nat), i < aK → O.1 i = some sh → sh.1 = 12 → va_O "java/lang/String" (aAd E i) (aNw E) s s.heap ∧ va_OF "java/lang/String" "value" "[B" (aTv E (aRf (O.2.2 i 0))) (aAd E i) (aNw E) s s.heap ∧ va_OF "java/lang/String" "coder" "B" (.int (O.2.1 i 1)) (aAd E i) (aNw E) s s.heap) ∧
  (∀ q ∈ aStats, va_Z q.1 q.2.1 q.2.2.1 (aTv E (if q.2.2.2.1 = 0 then .int (nI q.2.2.2.2) else .ref q.2.2.2.2)) (aNw E) s s.heap) ∧
  (∀ q ∈ aStrs, vk_R q.1 q.2.1 q.2.2.1 (aAd E q.2.2.2) s) ∧ (∀ w ∈ aNests, va_Nw w s) ∧
  va_AO "GallopDispatch$Law" s ∧ va_AO "GallopDispatch$State" s ∧ (Cond.arrayOver (.array .int)).before #[] s = true ∧ aXt E s
theorem aKS.kept {E : aE} {O : aOl} {s U : State} (k : aKS E O s) (hW : s.WarmedH U.vm) (hz : s.heap.size ≤ U.heap.size) (hq : ∀ q : Nat, q < s.heap.size → ¬ aNw E q → U.heap[q]? = s.heap[q]?) : aKS E O U := by
  obtain ⟨k1, k2, k3, k4, k5, k6, k7, k8, k9, k10, k11, k12, k13, ⟨sa, k14⟩, k15⟩ := k
  have al := hW.alike
  refine ⟨va_K.moved al k1, by omega, k3, fun i sh h1 h2 h3 => va_T.moved al ((k4 i sh h1 h2 h3).kept hq), fun i sh h1 h2 h3 => ?_, fun q h => va_Z.moved al ((k6 q h).kept hq), fun q h => vk_R.warm hW (k7 q h), fun w h => ?_, va_AO.moved al k9, va_AO.moved al k10, over_moved al k11, vx_Zq.moved al (k12.kept hq), vx_Zq.moved al (k13.kept hq), ⟨sa, vk_R.warm hW k14⟩, va_Nw.warmC hW k15⟩
  · obtain ⟨a1, a2, a3⟩ := k5 i sh h1 h2 h3
    exact ⟨va_O.moved al (a1.kept hq), va_OF.moved al (a2.kept hq), va_OF.moved al (a3.kept hq)⟩
  · have h1 := (List.mem_filter.mp h).2
    cases w <;> first | exact va_Nw.warmM hW (k8 _ h) | (simp [isNest] at h1)
section MEM
variable {p : Program} {l : Launch} {e : Env} {R : Room} {s : State} {m : MethodId} {args : Array Value} {below : List Frame} {meth : Method} {c : Code} {Q : State → Prop}
variable {cc : ByteArray} {E : aE} {O : aOl} {b0 b1 : Nat} {own : String}
theorem aOld_at {h : aM} {H : Heap} {a : Nat} {sh : Nat × Nat} (hA : aR E O h H) (ha : a < aK) (hs : h.1[a]? = some sh) : O.1 a = some sh := by rw [← (hA.2.2.1 a ha).1]; exact hs
theorem sn_get {i n r1 r2 r3 pc : Nat} {lv : aV} {st : List Value} {h : aM} {o : aO} (hx : p.tables.exec = Jvm.exec) (hb : c.code = cc) (hts : ∀ w ∈ aWs, w.before args s = true) (hown : s.vm.findClass own = some m.cls) (hK : aKS E O s) (hd : decode cc pc = .ok (.getfield i, 3))
    (hv : (∃ r : vw_C, aCl[r1]? = some r ∧ Cond.fieldLink own i (r.2.1 r2).1 (r.2.1 r2).2.1 (r.2.1 r2).2.2.1 ∈ aWs ∧ r3 = aFk r1 r2) ∨ (r1 = 12 ∧ ((r2 = 0 ∧ r3 = 2 ∧ Cond.fieldLink own i "java/lang/String" "value" "[B" ∈ aWs) ∨ (r2 = 1 ∧ r3 = 0 ∧ Cond.fieldLink own i "java/lang/String" "coder" "B" ∈ aWs))))
    (hs : aStep (.getfield i) 3 r1 r2 r3 pc lv st h = some o) (k : aG p l e R s m args below meth c Q E O b0 b1 o.1 o.2.1 o.2.2.1 o.2.2.2) : aG p l e R s m args below meth c Q E O b0 b1 pc lv st h := by
  simp only [aStep, aGet] at hs
  split at hs
  · rename_i a t
    split at hs
    · rename_i hc
      cases hs
      intro ls H locs hL hA hS
      by_cases ha : a < aK
      · have ho := aOld_at hA ha hc.1
        have h12 : r1 = 12 := by
          rcases hv with ⟨r, h1, -⟩ | ⟨h1, -⟩
          · have hlt := (List.getElem?_eq_some_iff.mp h1).1
            have h2 := (hK.2.2.1 a _ ha ho).1
            simp [aCl] at hlt
            simp at h2
            omega
          · exact h1
        obtain ⟨a1, a2, a3⟩ := hK.2.2.2.2.1 a _ ha ho h12
        rcases hv with ⟨r, h1, -⟩ | ⟨-, ⟨rfl, rfl, hl⟩ | ⟨rfl, rfl, hl⟩⟩
        · have hlt := (List.getElem?_eq_some_iff.mp h1).1
          simp [aCl] at hlt
          omega
        · refine vk_getf hx hb a2 hS hown (hts _ hl) (fun _ z => z) hd ?_
          have hk := k ls H locs hL hA hS
          simp only [aRd, List.map_cons, (hA.2.2.1 a ha).2 0] at hk
          exact hk
        · refine vk_getf hx hb a3 hS hown (hts _ hl) (fun _ z => z) hd ?_
          have hk := k ls H locs hL hA hS
          simp only [aRd, List.map_cons, (hA.2.2.1 a ha).2 1] at hk
          exact hk
      · have hc2 := (hA.2.2.2.1 a _ (Nat.le_of_not_lt ha) hc.1).1
        rcases hv with ⟨r, h1, hl, rfl⟩ | ⟨h1, -⟩
        · have hlt := (List.getElem?_eq_some_iff.mp h1).1
          obtain ⟨r', e1, e2, cell, q1, q2, q3, q4⟩ := hc2 (by simp [aCl] at hlt; simp; omega)
          cases h1.symm.trans e1
          obtain ⟨t1, t2, t3, ty, t4, t5⟩ := aCl_ok _ _ h1
          have hk2 : r2 < r.2.2 := by rw [t3]; exact hc.2
          obtain ⟨hSl, hfc, kC, hkC, hkind⟩ := hK.1.1 r1 _ h1
          obtain ⟨cf, kf, fi, f, hi, hsl⟩ := hSl r2 hk2
          refine W.getf hx hb hown (hts _ hl) hi (u_facts hfc hkC (u_lays hts t1 hk2) hi).1 q1 (by rw [q3]; exact fun h => by cases h) (v := aTv E (aRd h (aFk r1 r2) a r2)) ?_ rfl rfl hd (k ls H locs hL hA hS)
          rw [hsl, q4 r2 hk2]
          have hlt' : r1 < 12 := by simpa [aCl] using hlt
          simp [aCv, aKd, show r1 < 100 by omega]
        · subst h1
          have := hc2 (by simp)
          obtain ⟨r', e1, -⟩ := this
          simp [aCl] at e1
    · cases hs
  · cases hs
end MEM
