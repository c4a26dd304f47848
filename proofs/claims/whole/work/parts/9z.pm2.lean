-- deps: 9y.pm
/-! ===== the caught call, as a whole ===== -/
section PMB
variable {p : Program} {l : Launch} {e : Env} {R : Room} {s : State} {m : MethodId} {args : Array Value} {below : List Frame} {meth : Method} {c : Code} {Q : State → Prop}
variable {E : aE} {O : aOl}
theorem cxM_c {y z : MethodName} {b zb : ByteArray} {mL zL d i r1 r2 r3 pc : Nat} {zrt : Option FieldType} {lv : aV} {st : List Value} {h : aM} {v : Option Value} {b0 b1 : Nat} (cx : CxM p R s m args meth c E O y b mL) (hll : lv.length = mL) (hb0 : b0 ≤ h.1.length) (hb1 : b1 ≤ h.2.1) (hc : h.1.length - b0 ≤ R.cells) (hsl : h.2.1 - b1 ≤ R.slots) (ok : okE y b (pc, .invokevirtual i, 3, r1, r2, r3)) (hcl : aIsCall (.invokevirtual i) r1 = true) (hz : miM r1 = some (z, zb, zL, zrt)) (hok : aCallOk (.invokevirtual i) r2 r3 zL st h = true) (hf : d + 2 ≤ R.frames) (hlo : aLo (d + 1) ≤ R.locals) (hm : aMet l E O miM d r1 0 (aArg zL (st.take (r2 + 1)).reverse) [] h v h)
    (k : aG p l e R s m args below meth c Q E O b0 b1 (pc + 3) lv (v.toList ++ st.drop (r2 + 1)) h) : aG p l e R s m args below meth c Q E O b0 b1 pc lv st h := by
  obtain ⟨c1, c2, c3, c4, c5, c6, c7, c8, c9⟩ := cx
  intro ls H locs hL hA hS
  obtain ⟨-, hrun⟩ := aCallRun (l := l) (ls := ls) (H := H) (locs := locs) (cells := h.1.length - b0) (slots := h.2.1 - b1) (e := e) (below := below) (meth := meth) miM_ok c1 c2 c3 (hL.1.trans hll) c4 c5 c7 hA hS ok.1 rfl ok.2.2 hcl hz hok hf hlo (by omega) (by omega) hm
  refine aCallGo hrun fun v' st₀ t L h0 hLL hq => ?_
  obtain ⟨⟨q1, q2⟩, q3, q4⟩ := hq
  have hv' : v' = v.map (aTv E) := by simpa using q1
  have hk2 := k ls t.heap (locs ++ L) hL q2 ⟨by rw [h0] at q3; have := hS.1; omega, fun q z1 z2 => by
    rw [h0] at q4 q3
    exact (q4 q (by have := hS.1; omega) z2).trans (hS.2.1 q z1 z2), fun q z => (List.mem_append.mp z).elim (hS.2.2 q) (hLL q)⟩
  rw [Nat.sub_self, Nat.sub_self, Nat.add_zero, Nat.add_zero]
  rw [List.map_append] at hk2
  rw [hv']
  have e9 : (v.map (aTv E)).toList = v.toList.map (aTv E) := by cases v <;> rfl
  rw [e9]
  exact hk2
/-- what a throw of man leaves -/
def pmX (E : aE) (O : aOl) (h : aM) : String → State → State → Prop := vx_X (fun _ : Unit => True) (fun C _ t => C = nsE ∧ aR E O (aNew h (99, 6)) t.heap) (aNw E)
theorem man_t {h : aM} {pA qA : Int32} {Qc : Array Value → State → Outcome → State → Prop} (g : aPMg h) (t : aPMt h pA qA) (hl : l.stackTraces = false) (cx : CxM p R s m args meth c E O yMan prog_1_method_9_code 3) (hout : ∀ x ∈ c.exceptionTable.toList, False) (hlocks : meth.locks = false) (hR : 6 ≤ R.frames) (hRl : aLo 4 ≤ R.locals) (hRc : 1 ≤ R.cells) (hRs : 6 ≤ R.slots) :
    aG p l e R s m args below meth c (vx_MQ below Qc (pmX E O h) args s 1 6 (aNw E)) E O h.1.length h.2.1 0 [some (.ref 32), some (.int pA), some (.int qA)] [] h := by
  have z1 : h.1.length - h.1.length ≤ R.cells := by omega
  have z2 : h.2.1 - h.2.1 ≤ R.slots := by omega
  have hlo : 82 ≤ R.locals := by
    unfold aLo at hRl
    omega
  have w17 := man_17 (l := l) (e := e) (below := below) (h := h) (pA := pA) (qA := qA) (Qc := Qc) hl cx hout hlocks hR hlo hRc hRs
  refine cxM_s cx rfl (Nat.le_refl _) (Nat.le_refl _) z1 z2 mc299_0 rfl rfl rfl (cxM_s cx rfl (Nat.le_refl _) (Nat.le_refl _) z1 z2 mc299_1 rfl rfl rfl ?_)
  have call : ∀ (r : Int32), RnM 3 102 0 [some (.ref 32), some (.int pA)] [] h (some (.int r)) h → aG p l e R s m args below meth c (vx_MQ below Qc (pmX E O h) args s 1 6 (aNw E)) E O h.1.length h.2.1 5 [some (.ref 32), some (.int pA), some (.int qA)] [.int r] h → aG p l e R s m args below meth c (vx_MQ below Qc (pmX E O h) args s 1 6 (aNw E)) E O h.1.length h.2.1 2 [some (.ref 32), some (.int pA), some (.int qA)] [.int pA, .ref 32] h := by
    rintro r ⟨n, hr⟩ k
    obtain ⟨-, -, hm⟩ := aSound cd2_ok miM_ok l E O pmN_ok n 3 102 0 _ _ h _ _ hr
    exact cxM_c (st := [.int pA, .ref 32]) (v := some (.int r)) cx rfl (Nat.le_refl _) (Nat.le_refl _) z1 z2 mc299_2 rfl rfl (cOk_v (as := [.int pA]) rfl (Nat.le_of_ble_eq_true rfl) g.1.1) (by omega) hRl hm k
  by_cases t1 : pA < 0
  · exact call 0 (isM_0a t1) (cxM_s cx rfl (Nat.le_refl _) (Nat.le_refl _) z1 z2 mc299_5 rfl rfl (jz_t (t := 17) rfl rfl) w17)
  · by_cases t2 : gi h 58 3 ≤ pA
    · exact call 0 (isM_0b g t1 t2) (cxM_s cx rfl (Nat.le_refl _) (Nat.le_refl _) z1 z2 mc299_5 rfl rfl (jz_t (t := 17) rfl rfl) w17)
    · refine call 1 (isM_1 g t1 t2) (cxM_s cx rfl (Nat.le_refl _) (Nat.le_refl _) z1 z2 mc299_5 rfl rfl (jz_f (t := 17) rfl rfl) (cxM_s cx rfl (Nat.le_refl _) (Nat.le_refl _) z1 z2 mc299_8 rfl rfl rfl ?_))
      by_cases t3 : qA < 0
      · exact cxM_s cx rfl (Nat.le_refl _) (Nat.le_refl _) z1 z2 mc299_9 rfl rfl (jz_t (t := 17) rfl (decide_eq_true t3)) w17
      · have t4 : 4 < qA := by
          rcases t with t | t | t | t
          · exact absurd t t1
          · exact absurd t t2
          · exact absurd t t3
          · exact t
        exact cxM_s cx rfl (Nat.le_refl _) (Nat.le_refl _) z1 z2 mc299_9 rfl rfl (jz_f (t := 17) rfl (decide_eq_false t3)) (cxM_s cx rfl (Nat.le_refl _) (Nat.le_refl _) z1 z2 mc299_12 rfl rfl rfl (cxM_s cx rfl (Nat.le_refl _) (Nat.le_refl _) z1 z2 mc299_13 rfl rfl rfl (cxM_s cx rfl (Nat.le_refl _) (Nat.le_refl _) z1 z2 mc299_14 rfl rfl (jc_f (t := 27) rfl (decide_eq_false (Int32.not_le.mpr t4))) w17)))
theorem man_met {h : aM} {pA qA : Int32} {Qc : Array Value → State → Outcome → State → Prop} (g : aPMg h) (t : aPMt h pA qA) (hl : l.stackTraces = false) : vx_Met l yMan (Cond.code yMan prog_1_method_9_code 3 (some .int) :: aWs) { frames := 8, cells := 1, slots := 6, locals := aLo 7 } (aPc E O h [.ref 32, .int pA, .int qA]) Qc (pmX E O h) 1 6 (aNw E) := by
  refine vx_ofW (cc := prog_1_method_9_code) (maxL := 3) (ret := some .int) (by decide +kernel) rfl ?_
  intro p e s m args below meth c s₁ B hml hout hv
  obtain ⟨rfl, hks, har⟩ := hv
  have hts := atoms_spec (ws := Cond.code yMan prog_1_method_9_code 3 (some .int) :: aWs) B.pre
  have hL := aLR.entry E [.ref 32, .int pA, .int qA] (n := 3) (Nat.le_of_ble_eq_true rfl)
  rw [lg_entry_eq]
  have hg := man_t (p := p) (e := e) (below := below) (R := { frames := 8, cells := 1, slots := 6, locals := aLo 7 }) (Qc := Qc) (E := E) (O := O) g t hl ⟨B.exec, B.bytes, hml, fun w hw => hts w (List.mem_cons_of_mem _ hw), findClass_of_methodNamed B.named, (name_of_methodNamed B.named B.method).1, hks, by decide, by decide⟩ hout B.notSynchronized (by decide) (by decide) (by decide) (by decide) _ _ _ hL har va_S.rf
  rw [Nat.sub_self, Nat.sub_self] at hg
  exact hg
end PMB
