/-! ===== the run of a method in AM is its run in the JVM ===== -/
theorem aArg_len {n : Nat} {as : List Value} (h : aSlots as ≤ n) : (aArg n as).length = n := by
  unfold aArg aSlots at *
  rw [List.length_append, List.length_replicate]
  omega
/-- Met.ofW for a method that nothing runs in place of, whatever its class -/
theorem aOfW {l : Launch} {y : MethodName} {ws ws' : List Cond} {rm : Room} {Pc : Array Value → State → Prop} {Qc : Array Value → State → Outcome → State → Prop} {mc ms : Nat} {free : Addr → Prop} {cc : ByteArray} {maxL : Nat} {ret : Option FieldType}
    (hy : plainFor y = true) (hw : ws = Cond.code y cc maxL ret :: ws')
    (body : ∀ p e s m args below meth c s₁, BodyLoose p l y (headSpec ws rm) cc maxL ret e s m args below meth c s₁ → c.maxLocals = maxL → Pc args s →
      W p l e (headSpec ws rm).room s m args below meth c s.heap [] 0 0 (MQ below Qc args s mc ms free) (entryFrame m args maxL)) : Met l y ws rm Pc Qc mc ms free := by
  refine MetFree.of_bodySF (code := cc) (maxLocals := maxL) (ret := ret) hy ?_ ?_
  · intro args s m h hn
    obtain ⟨meth, c, h1, h2, h3, h4, h5, h6, -, -⟩ := Cond.code_spec hn (atoms_spec (ws := ws) h _ (by rw [hw]; exact List.mem_cons_self))
    exact ⟨meth, c, h1, h2, h3, h4, h5, h6⟩
  · intro p e s m args below meth c s₁ B hml hP _
    have hh0 : s₁.heap = s.heap := by rw [B.state]; rfl
    obtain ⟨t, a1, o, b1, b2, b3⟩ := body p e s m args below meth c s₁ B hml hP s₁ hh0 (Stand.of_body B)
    exact ⟨t, o, a1, b1, b2, ⟨b3.1, b3.2⟩⟩
/-- what a method's run gives -/
def aMet (l : Launch) (E : aE) (O : aOl) (mi : aMi) (d k pc : Nat) (lv : aV) (st : List Value) (h : aM) (v : Option Value) (h' : aM) : Prop :=
  ∀ {y : MethodName} {b : ByteArray} {mL : Nat} {rt : Option FieldType}, mi k = some (y, b, mL, rt) → ∀ {p : Program} {e : Env} {R : Room} {s : State} {m : MethodId} {args : Array Value} {below : List Frame} {meth : Method} {c : Code} {Q : State → Prop} {b0 b1 : Nat},
    p.tables.exec = Jvm.exec → c.code = b → c.maxLocals = mL → lv.length = mL → (∀ w ∈ aWs, w.before args s = true) → s.vm.findClass y.cls = some m.cls → meth.name = y.name → aKS E O s → b0 ≤ h.1.length → b1 ≤ h.2.1 → h'.1.length - b0 ≤ R.cells → h'.2.1 - b1 ≤ R.slots → d + 1 ≤ R.frames → aLo d ≤ R.locals →
    aFin p l e R s m args below meth c Q E O b0 b1 b rt v h' → aG p l e R s m args below meth c Q E O b0 b1 pc lv st h
theorem aMet_of {l : Launch} {E : aE} {O : aOl} {mi : aMi} (hM : aMOk mi) {d k : Nat} (hk3 : k < 300) {z : MethodName} {b : ByteArray} {mL : Nat} {rt : Option FieldType} (hk : mi k = some (z, b, mL, rt)) {as : List Value} (hsl : aSlots as ≤ mL) {h h1 : aM} {v : Option Value} (hm : aMet l E O mi d k 0 (aArg mL as) [] h v h1) :
    Met l z (Cond.code z b mL rt :: aWs) { frames := d + 1, cells := h1.1.length - h.1.length, slots := h1.2.1 - h.2.1, locals := aLo d } (aPc E O h as) (fun _ => aQc E O h1 v) (h1.1.length - h.1.length) (h1.2.1 - h.2.1) (aNw E) := by
  refine aOfW (cc := b) (maxL := mL) (ret := rt) (hM k hk3 z b mL rt hk).2.1 rfl ?_
  intro p e s m args below meth c s₁ B hml hv
  obtain ⟨rfl, hks, har⟩ := hv
  have hts := atoms_spec (ws := Cond.code z b mL rt :: aWs) B.pre
  have hL := aLR.entry E as (n := mL) hsl
  rw [lg_entry_eq]
  have hg := hm hk (e := e) (below := below) (b0 := h.1.length) (b1 := h.2.1) (R := { frames := d + 1, cells := h1.1.length - h.1.length, slots := h1.2.1 - h.2.1, locals := aLo d }) B.exec B.bytes hml (aArg_len hsl) (fun w hw => hts w (List.mem_cons_of_mem _ hw)) (findClass_of_methodNamed B.named) (name_of_methodNamed B.named B.method).1 hks (Nat.le_refl _) (Nat.le_refl _) (Nat.le_refl _) (Nat.le_refl _) (Nat.le_refl _) (Nat.le_refl _) (aFin_met B.exec B.bytes B.returns B.notSynchronized) _ _ _ hL har (va_S.rf)
  rw [Nat.sub_self, Nat.sub_self] at hg
  exact hg
section MAIN
variable {p : Program} {l : Launch} {e : Env} {R : Room} {s : State} {m : MethodId} {args : Array Value} {below : List Frame} {meth : Method} {c : Code} {Q : State → Prop}
variable {E : aE} {O : aOl} {b0 b1 : Nat}
theorem aNest_use {w : Cond} (hK : aKS E O s) (h : w ∈ aNests) : va_Nw w s := hK.2.2.2.2.2.2.2.1 w h
theorem aCallRun {mi : aMi} (hM : aMOk mi) {y z : MethodName} {b zb : ByteArray} {mL zL d n r1 r2 r3 pc : Nat} {zrt : Option FieldType} {ins : Instr} {st : List Value} {h h1 : aM} {v : Option Value} {H : Heap} {locs : List Loc} {cells slots : Nat} {ls : Array Slot}
    (hx : p.tables.exec = Jvm.exec) (hb : c.code = b) (hml : c.maxLocals = mL) (hsz : ls.size = mL) (hts : ∀ w ∈ aWs, w.before args s = true) (hown : s.vm.findClass y.cls = some m.cls) (hK : aKS E O s) (hA : aR E O h H) (hS : va_S (aNw E) s.heap H locs)
    (hd : decode b pc = .ok (ins, n)) (hn : n = aLn ins) (hv : aVal mi y ins r1 r2 r3) (hc : aIsCall ins r1 = true) (hz : mi r1 = some (z, zb, zL, zrt)) (hok : aCallOk ins r2 r3 zL st h = true) (hf : d + 1 + 1 ≤ R.frames) (hlo : aLo (d + 1) ≤ R.locals)
    (hcl : cells + (h1.1.length - h.1.length) ≤ R.cells) (hsl : slots + (h1.2.1 - h.2.1) ≤ R.slots) (hm : aMet l E O mi d r1 0 (aArg zL (st.take (aNum ins r2)).reverse) [] h v h1) :
    n = 3 ∧ CallRun p l e R s m args below meth c H locs cells slots (h1.1.length - h.1.length) (h1.2.1 - h.2.1) (F0 m pc ls (st.map (aTv E))) ((st.drop (aNum ins r2)).map (aTv E)) (aQc E O h1 v) (aNw E) := by
  simp only [aCallOk, Bool.and_eq_true, decide_eq_true_eq] at hok
  obtain ⟨⟨⟨g1, g2⟩, g3⟩, g4⟩ := hok
  have hr3 : r1 < 300 := by
    simp only [aIsCall, Bool.and_eq_true, decide_eq_true_eq] at hc
    exact hc.2
  obtain ⟨m1, m2, m3, m4, m5, m6⟩ := hM r1 hr3 z zb zL zrt hz
  have met := aMet_of hM hr3 hz g3 hm
  have hroom : 8 + (zL + 11) + aLo d ≤ R.locals := by unfold aLo at *; omega
  have hst : st = (st.take (aNum ins r2)).reverse.reverse ++ st.drop (aNum ins r2) := by rw [List.reverse_reverse, List.take_append_drop]
  have hlen : ((st.take (aNum ins r2)).reverse).length = aNum ins r2 := by rw [List.length_reverse, List.length_take]; omega
  generalize hrest : st.drop (aNum ins r2) = rest at *
  generalize has : (st.take (aNum ins r2)).reverse = as at *
  have hcat : ((rest.map (aTv E)).map fun v => v.category).sum ≤ 8 := by rw [aCat_map]; exact g2
  have hpre : ∀ U : State, U.heap = H → s.WarmedH U.vm → aPc E O h as ((as.map (aTv E)).toArray) U := fun U hU hW => ⟨rfl, hK.kept hW (by rw [hU]; exact hS.1) (fun q q1 q2 => by rw [hU]; exact hS.2.1 q q1 q2), by rw [hU]; exact hA⟩
  have S : CallFix p m c b mL s args aWs y.cls := ⟨hx, hb, hml, hown, hts⟩
  have hG := aWs_init hM hr3 hz
  cases ins <;> simp [aIsCall] at hc
  case invokevirtual i =>
    simp [aLn] at hn
    subst hn
    refine ⟨rfl, ?_⟩
    obtain ⟨v1, v2, v3, v4, v5⟩ := hv z zb zL zrt hz
    cases as with
    | nil => simp [aRecv] at g4
    | cons r0 As =>
      cases r0 <;> simp [aRecv] at g4
      rename_i a
      have hcell : ∃ cellB : Cell, H[aAd E a]? = some cellB ∧ cellB.vm.isStatics = false ∧ s.vm.findClass z.cls = some cellB.cls := by
        by_cases ha : a < aK
        · have ho := aOld_at hA ha g4
          rcases v5 with ⟨rfl, hzc⟩ | ⟨r, hr, -⟩
          · obtain ⟨cell, c1, c2, c3, -⟩ := ((hK.2.2.2.2.1 a _ ha ho rfl).1).kept hS.2.1
            rw [hzc]
            exact ⟨cell, c1, c2, c3⟩
          · have hlt := (List.getElem?_eq_some_iff.mp hr).1
            simp [aCl] at hlt
            have h9 := (hK.2.2.1 a _ ha ho).1
            simp at h9
            omega
        · have hc2 := (hA.2.2.2.1 a _ (Nat.le_of_not_lt ha) g4).1
          rcases v5 with ⟨rfl, hzc⟩ | ⟨r, hr, hrz⟩
          · obtain ⟨r', e1, -⟩ := hc2 (by simp)
            simp [aCl] at e1
          · have hlt := (List.getElem?_eq_some_iff.mp hr).1
            have hlt' : r3 < 12 := by simpa [aCl] using hlt
            obtain ⟨r', e1, -, cell, q1, q2, q3, -⟩ := hc2 (by simp; omega)
            cases hr.symm.trans e1
            exact ⟨cell, q1, by rw [q3]; rfl, by rw [q2, ← hrz]; exact (hK.1.1 r3 _ hr).2.1⟩
      rw [hst]
      refine W.runV (C := z.cls) (b := aAd E a) (As := As.map (aTv E)) S met (cwV r2 hts (fun w hw => ?_) rfl rfl rfl ⟨rfl, m4, m5, v4⟩ ⟨hf, hroom⟩) ⟨aPc.blind, hcell, hpre⟩ rfl ?_ hsz ?_ (lv_room hcat) hd ⟨hcl, hsl⟩
      · simp only [wsV] at hw
        rcases List.mem_append.mp hw with q | q
        · refine aWs_good w ?_
          simp only [List.mem_cons, List.not_mem_nil, or_false] at q
          rcases q with rfl | rfl | rfl | rfl
          · exact v1
          · exact v2
          · exact v3
          · exact m3
        · exact hG w q
      · simp [aNum] at hlen
        simp [hlen]
      · show List.map (aTv E) ((Value.ref a :: As).reverse ++ rest) = _
        simp [List.map_reverse, aTv]
  case invokestatic i =>
    simp [aLn] at hn
    subst hn
    refine ⟨rfl, ?_⟩
    obtain ⟨-, hv⟩ := (hv.resolve_left (fun q => by omega)).resolve_left (fun q => by omega)
    obtain ⟨v1, v2, v3⟩ := hv z zb zL zrt hz
    have hstk : (F0 m pc ls (st.map (aTv E))).stack = (as.map (aTv E)).reverse ++ rest.map (aTv E) := by
      show List.map (aTv E) st = _
      rw [hst]
      simp [List.map_reverse]
    have hnn : (as.map (aTv E)).length = r2 := by simp [aNum] at hlen; simp [hlen]
    rcases v3 with v3 | ⟨host, v3⟩
    · refine W.runS (As := as.map (aTv E)) S met (va_cwS r2 hts (fun w hw => ?_) rfl rfl rfl ⟨m4, m5, v2⟩ ⟨hf, hroom⟩) ⟨aPc.blind, hpre⟩ rfl hnn hsz hstk (lv_room hcat) hd ⟨hcl, hsl⟩
      simp only [va_wsS] at hw
      rcases List.mem_append.mp hw with q | q
      · refine aWs_good w ?_
        simp only [List.mem_cons, List.not_mem_nil, or_false] at q
        rcases q with rfl | rfl | rfl
        · exact v3
        · exact v1
        · exact m3
      · exact hG w q
    · exact aRunOf (va_runSN (As := as.map (aTv E)) S met ⟨va_cnB r2 hts hG rfl rfl rfl (aNest_use hK v3) (hts _ m3) ⟨m4, m5, v2⟩ ⟨hf, hroom⟩, hts _ v1, trivial⟩ ⟨aPc.blind, hpre⟩ rfl hnn hsz hstk (lv_room hcat) hd ⟨hcl, hsl⟩)
  case invokespecial i =>
    simp [aLn] at hn
    subst hn
    refine ⟨rfl, ?_⟩
    obtain ⟨-, hv⟩ := hv.resolve_left (fun q => by omega)
    obtain ⟨rfl, v0, v1, v2, v3⟩ := hv z zb zL zrt hz
    cases as with
    | nil => simp [aRecv] at g4
    | cons r0 As =>
      cases r0 <;> simp [aRecv] at g4
      rename_i a
      have hstk : (F0 m pc ls (st.map (aTv E))).stack = (As.map (aTv E)).reverse ++ .ref (aAd E a) :: rest.map (aTv E) := by
        show List.map (aTv E) st = _
        rw [hst]
        simp [List.map_reverse, aTv]
      have hnn : (As.map (aTv E)).length = r2 := by simp [aNum] at hlen; simp [hlen]
      rcases v3 with v3 | ⟨host, v3⟩
      · exact W.runI (b := aAd E a) (As := As.map (aTv E)) S met (cwI r2 hts hG rfl rfl rfl (hts _ m3) (hts _ v3) (hts _ v1) v0 ⟨m4, m5, v2⟩ ⟨hf, hroom⟩) ⟨aPc.blind, hpre⟩ rfl hnn hsz hstk (lv_room hcat) hd ⟨hcl, hsl⟩
      · exact aRunOf (va_runIN (b := aAd E a) (As := As.map (aTv E)) S met ⟨va_cnB r2 hts hG rfl rfl rfl (aNest_use hK v3) (hts _ m3) ⟨m4, m5, v2⟩ ⟨hf, hroom⟩, v0, hts _ v1⟩ ⟨aPc.blind, hpre⟩ rfl hnn hsz hstk (lv_room hcat) hd ⟨hcl, hsl⟩)
theorem aSound {mi : aMi} {cd : aCd} {pm : aPm} (hOk : aOk mi cd) (hM : aMOk mi) (l : Launch) (E : aE) (O : aOl) (hP : aPmOk l E O pm) : ∀ (n d k pc : Nat) (lv : aV) (st : List Value) (h : aM) (v : Option Value) (h' : aM), aRun mi cd pm n d k pc lv st h = some (v, h') → h.1.length ≤ h'.1.length ∧ h.2.1 ≤ h'.2.1 ∧ aMet l E O mi d k pc lv st h v h'
  | 0, _, _, _, _, _, _, _, _, hr => by simp [aRun] at hr
  | n + 1, d, k, pc, lv, st, h, v, h', hr => by
    unfold aRun at hr
    split at hr
    · cases hr
    · rename_i ins len r1 r2 r3 hcd
      obtain ⟨y0, b00, mL0, rt0, hmi, hdec, hln, hval⟩ := hOk k pc ins len r1 r2 r3 hcd
      split at hr
      · rename_i hret
        rw [hmi] at hr
        dsimp only at hr
        split at hr
        · rename_i v' hv'
          cases hr
          refine ⟨Nat.le_refl _, Nat.le_refl _, ?_⟩
          intro y b mL rt hk p e R s m args below meth c Q b0 b1 hx hb hml hll hts hown hnm hK hb0 hb1 hc hsl hf hlo fin
          cases hmi.symm.trans hk
          obtain ⟨e1, h1⟩ := aRetV_inv hv'
          have hl1 : len = 1 := by
            rcases h1 with ⟨rfl, -⟩ | ⟨rfl, -⟩ | ⟨rfl, -⟩ | ⟨rfl, -⟩ <;> simpa [aLn] using hln
          subst hl1
          intro ls H locs hL hA hS
          rw [e1] at hv' ⊢
          exact fin pc ls H locs ins hdec hv' hA hS
        · cases hr
      · rename_i hnret
        split at hr
        · rename_i hcall
          split at hr
          · rename_i d' zy zb zL zrt hz
            split at hr
            · rename_i hok
              split at hr
              · rename_i v1 h1 hr1
                obtain ⟨a1, a2, a3⟩ := aSound hOk hM l E O hP n d' r1 0 _ _ h v1 h1 hr1
                obtain ⟨c1, c2, c3⟩ := aSound hOk hM l E O hP n (d' + 1) k (pc + len) lv _ h1 v h' hr
                refine ⟨by omega, by omega, ?_⟩
                intro y b mL rt hk p e R s m args below meth c Q b0 b1 hx hb hml hll hts hown hnm hK hb0 hb1 hc hsl hf hlo fin
                cases hmi.symm.trans hk
                have hlen : len = aLn ins := hln.resolve_right (fun q => by
                  rcases q with ⟨_, _, _, _, rfl⟩ | ⟨_, _, rfl⟩ <;> simp [aIsCall] at hcall)
                intro ls H locs hL hA hS
                obtain ⟨e3, hrun⟩ := aCallRun (ls := ls) (H := H) (locs := locs) (cells := h.1.length - b0) (slots := h.2.1 - b1) (e := e) (below := below) (meth := meth) hM hx hb hml (hL.1.trans hll) hts hown hK hA hS hdec hlen hval hcall hz hok hf hlo (by omega) (by omega) a3
                subst e3
                refine aCallGo hrun fun v' st₀ t L h0 hLL hq => ?_
                obtain ⟨⟨q1, q2⟩, q3, q4⟩ := hq
                have hv' : v' = v1.map (aTv E) := by simpa using q1
                have hk2 := c3 hmi hx hb hml hll hts hown hnm hK (Q := Q) (b0 := b0) (b1 := b1) (by omega) (by omega) hc hsl hf hlo fin ls t.heap (locs ++ L) hL q2 ⟨by rw [h0] at q3; have := hS.1; omega, fun q z1 z2 => by
                  rw [h0] at q4 q3
                  exact (q4 q (by have := hS.1; omega) z2).trans (hS.2.1 q z1 z2), fun q z => (List.mem_append.mp z).elim (hS.2.2 q) (hLL q)⟩
                rw [show h.1.length - b0 + (h1.1.length - h.1.length) = h1.1.length - b0 by omega, show h.2.1 - b1 + (h1.2.1 - h.2.1) = h1.2.1 - b1 by omega]
                rw [List.map_append] at hk2
                rw [hv']
                have e9 : (v1.map (aTv E)).toList = v1.toList.map (aTv E) := by cases v1 <;> rfl
                rw [e9]
                exact hk2
              · cases hr
            · cases hr
          · cases hr
        · rename_i hncall
          split at hr
          · rename_i hpm
            split at hr
            · rename_i hcond
              split at hr
              · rename_i v1 h1 hr1
                obtain ⟨g1, g2, g3⟩ := hcond
                have hl4 : (st.take 4).reverse.length = 4 := by rw [List.length_reverse, List.length_take]; omega
                obtain ⟨a1, a2, a3⟩ := hP h _ v1 h1 hr1 hl4
                obtain ⟨c1, c2, c3⟩ := aSound hOk hM l E O hP n d k (pc + len) lv _ h1 v h' hr
                refine ⟨by omega, by omega, ?_⟩
                intro y b mL rt hk p e R s m args below meth c Q b0 b1 hx hb hml hll hts hown hnm hK hb0 hb1 hc hsl hf hlo fin
                cases hmi.symm.trans hk
                have key : ∃ i, ins = .invokestatic i ∧ r1 = 1002 := by
                  cases ins <;> simp [aIsPm] at hpm
                  exact ⟨_, rfl, hpm⟩
                obtain ⟨i, rfl, rfl⟩ := key
                have e3 : len = 3 := by simpa [aLn] using hln
                subst e3
                obtain ⟨-, v1', v2'⟩ := (hval.resolve_left (fun q => by omega)).resolve_right (fun q => by omega)
                intro ls H locs hL hA hS
                rw [v1'] at v2' hown
                have hrun := a3 (ls := ls) (p := p) (e := e) (R := R) (s := s) (m := m) (args := args) (below := below) (meth := meth) (c := c) (H := H) (locs := locs) (cells := h.1.length - b0) (slots := h.2.1 - b1) (i := i) (pc := pc) (rest := (st.drop 4).map (aTv E)) hx (by rw [hml, ← hll]; exact hL.1.symm) hts hown v2' hK hA hS (by rw [aCat_map]; exact g3) (by omega) (by unfold aLo at *; omega) (by omega) (by omega) (by rw [hb]; exact hdec)
                have hstk : st.map (aTv E) = ((st.take 4).reverse.reverse).map (aTv E) ++ (st.drop 4).map (aTv E) := by rw [List.reverse_reverse, ← List.map_append, List.take_append_drop]
                rw [← hstk] at hrun
                refine aCallGo hrun fun v' st₀ t L h0 hLL hq => ?_
                obtain ⟨⟨q1, q2⟩, q3, q4⟩ := hq
                have hv' : v' = some (aTv E v1) := by simpa using q1
                have hk2 := c3 hmi hx hb hml hll hts (by rw [v1']; exact hown) hnm hK (Q := Q) (b0 := b0) (b1 := b1) (by omega) (by omega) hc hsl hf hlo fin ls t.heap (locs ++ L) hL q2 ⟨by rw [h0] at q3; have := hS.1; omega, fun q z1 z2 => by
                  rw [h0] at q4 q3
                  exact (q4 q (by have := hS.1; omega) z2).trans (hS.2.1 q z1 z2), fun q z => (List.mem_append.mp z).elim (hS.2.2 q) (hLL q)⟩
                rw [show h.1.length - b0 + (h1.1.length - h.1.length) = h1.1.length - b0 by omega, show h.2.1 - b1 + (h1.2.1 - h.2.1) = h1.2.1 - b1 by omega]
                rw [hv']
                exact hk2
              · cases hr
            · cases hr
          · rename_i hnpm
            split at hr
            · rename_i o hs
              obtain ⟨s1, s2, s3⟩ := aStep_len hs
              obtain ⟨c1, c2, c3⟩ := aSound hOk hM l E O hP n d k o.1 o.2.1 o.2.2.1 o.2.2.2 v h' hr
              refine ⟨by omega, by omega, ?_⟩
              intro y b mL rt hk p e R s m args below meth c Q b0 b1 hx hb hml hll hts hown hnm hK hb0 hb1 hc hsl hf hlo fin
              cases hmi.symm.trans hk
              refine aSnd hx hb hml hll hts hown hnm hK hdec hln hval (by simpa using hncall) (by simpa using hnpm) hs hb0 hb1 (by omega) (by omega) (by omega) (by unfold aLo at hlo; omega) (c3 hmi hx hb hml (s3.trans hll) hts hown hnm hK (by omega) (by omega) hc hsl hf hlo fin)
            · cases hr
end MAIN
