/-! ===== AM and the JVM: int[n][k] and System.arraycopy ===== -/
theorem ax_outer (c : ClassId) (N h0 : Nat) : ∀ i : Nat, Jvm.Free.Multi.outerC c N h0 i = arrV c N (fun j => va_rf (if j < i then some (h0 + 1 + j) else none))
  | 0 => by
    show ({ cls := c, slots := Array.replicate N .null, vm := .none } : Cell) = _
    rw [arrV_new]
    refine congrArg (arrV c N) (funext fun j => ?_)
    simp [va_rf]
  | i + 1 => by
    show (Jvm.Free.Multi.outerC c N h0 i).setSlot i (.ref (h0 + 1 + i)) = _
    rw [ax_outer c N h0 i, arrV_store]
    refine congrArg (arrV c N) (funext fun j => ?_)
    by_cases e : j = i
    · subst e
      simp [updV, va_rf]
    · by_cases h : j < i
      · simp [updV, e, h, Nat.lt_succ_of_lt h]
      · simp [updV, e, h, show ¬ j < i + 1 by omega]
section MEM4
variable {p : Program} {l : Launch} {e : Env} {R : Room} {s : State} {m : MethodId} {args : Array Value} {below : List Frame} {meth : Method} {c : Code} {Q : State → Prop}
variable {cc : ByteArray} {E : aE} {O : aOl} {b0 b1 : Nat} {own : String}
theorem aMul_at {h : aM} {t1 t2 N M i : Nat} {sh : Nat × Nat} (hs : (aMul h t1 t2 N M).1[i]? = some sh) : (i < h.1.length ∧ h.1[i]? = some sh) ∨ (i = h.1.length ∧ sh = (t1, N)) ∨ (∃ j, j < N ∧ i = h.1.length + 1 + j ∧ sh = (t2, M)) := by
  simp only [aMul] at hs
  by_cases hil : i < h.1.length
  · rw [List.getElem?_append_left hil] at hs
    exact Or.inl ⟨hil, hs⟩
  · rw [List.getElem?_append_right (by omega)] at hs
    by_cases h0 : i = h.1.length
    · subst h0
      simp at hs
      exact Or.inr (Or.inl ⟨rfl, hs.symm⟩)
    · rw [show i - h.1.length = (i - h.1.length - 1) + 1 by omega, List.getElem?_cons_succ, List.getElem?_replicate] at hs
      split at hs
      · rename_i hj
        cases hs
        exact Or.inr (Or.inr ⟨_, hj, by omega, rfl⟩)
      · cases hs
theorem sn_mna {i d r1 r2 r3 pc : Nat} {lv : aV} {st : List Value} {h : aM} {o : aO} (hx : p.tables.exec = Jvm.exec) (hb : c.code = cc) (hts : ∀ w ∈ aWs, w.before args s = true) (hown : s.vm.findClass own = some m.cls) (hK : aKS E O s) (hd : decode cc pc = .ok (.multianewarray i d, 4)) (hd2 : d = 2)
    (hv : Cond.classLink own i "[[I" ∈ aWs ∧ Cond.arrayClass .int ∈ aWs) (hs : aStep (.multianewarray i d) 4 r1 r2 r3 pc lv st h = some o)
    (hb0 : b0 ≤ h.1.length) (hb1 : b1 ≤ h.2.1) (hc : o.2.2.2.1.length - b0 ≤ R.cells) (hsl : o.2.2.2.2.1 - b1 ≤ R.slots)
    (k : aG p l e R s m args below meth c Q E O b0 b1 o.1 o.2.1 o.2.2.1 o.2.2.2) : aG p l e R s m args below meth c Q E O b0 b1 pc lv st h := by
  subst hd2
  simp only [aStep, aMna] at hs
  split at hs
  · rename_i kk n t
    split at hs
    · rename_i hcc
      cases hs
      intro ls H locs hL hA hS
      simp only [aMul, List.length_append, List.length_cons, List.length_replicate] at hc hsl
      have hkl := hA.1
      have hsz := hA.2.1
      intro T hT Xs
      obtain ⟨vm₁, cA, comp, -, fA, fC, hO, -, X', step⟩ := Xs.multianewarray2F hx hown (ty := .int) (hts _ hv.1) hK.2.2.2.2.2.2.2.2.2.2.1 (hts _ hv.2) (g := F0 m pc ls (.int kk :: .int n :: t.map (aTv E))) rfl (by rw [hb]; exact hd) rfl hcc.1 hcc.2.1 (by omega) (by show _ * 4 ≤ _; omega) (by omega) rfl rfl (by omega) (by omega)
      have hnI : s.vm.findClass ("[" ++ (FieldType.int).toString) = some (E.2.1 100) := (aArrOf hK (Or.inl rfl)).2
      have hnA : s.vm.findClass ("[" ++ (FieldType.array .int).toString) = some (E.2.1 104) := (aArrOf hK (t := 104) (by omega)).2
      have ec : comp = E.2.1 100 := Option.some.inj (fC.symm.trans hnI)
      have ea : cA = E.2.1 104 := Option.some.inj (fA.symm.trans hnA)
      subst ec; subst ea
      generalize hF : Jvm.Free.Multi.fill (T.setVm vm₁) (E.2.1 104) (E.2.1 100) n.toNatClampNeg kk.toNatClampNeg (defaultValue .int) n.toNatClampNeg = F at X' step
      have hTh : (T.setVm vm₁).heap = H := hT
      obtain ⟨f1, f2, -, -⟩ := Jvm.Free.Multi.fill_facts (T.setVm vm₁) (E.2.1 104) (E.2.1 100) n.toNatClampNeg kk.toNatClampNeg (defaultValue .int) n.toNatClampNeg
      rw [hF, hTh] at f1 f2
      have hold : ∀ x : Nat, x < H.size → F.heap[x]? = H[x]? := fun x hx => by
        have := Jvm.Free.Multi.fill_old (T.setVm vm₁) (E.2.1 104) (E.2.1 100) n.toNatClampNeg kk.toNatClampNeg (defaultValue .int) (a := x) (by rw [hTh]; exact hx) n.toNatClampNeg
        rw [hF, hTh] at this
        exact this
      have hrow : ∀ j : Nat, j < n.toNatClampNeg → F.heap[H.size + 1 + j]? = some (arrV (E.2.1 100) kk.toNatClampNeg (fun _ => .int 0)) := fun j hj => by
        have := Jvm.Free.Multi.fill_inner (T.setVm vm₁) (E.2.1 104) (E.2.1 100) n.toNatClampNeg kk.toNatClampNeg (defaultValue .int) n.toNatClampNeg j hj
        rw [hF, hTh] at this
        rw [this, ← arrV_new]
        rfl
      rw [ax_outer] at f2
      have hR : aR E O (aMul h 104 100 n.toNatClampNeg kk.toNatClampNeg) F.heap := by
        refine ⟨by simp [aMul]; omega, by simp [aMul]; rw [f1]; omega, fun b hb' => ?_, fun b sh hb' hs' => ?_, fun b sh hb' hs' => ?_⟩
        · have hbl : b < h.1.length := by omega
          refine ⟨by simp only [aMul]; rw [List.getElem?_append_left hbl]; exact (hA.2.2.1 b hb').1, fun j => ?_⟩
          simp only [aMul, if_neg (show ¬ h.1.length ≤ b by omega)]
          exact (hA.2.2.1 b hb').2 j
        · rcases aMul_at hs' with ⟨hbl, hs0⟩ | ⟨rfl, rfl⟩ | ⟨j, hj, rfl, rfl⟩
          · refine (hA.2.2.2.1 b sh hb' hs0).kept (hold _ (aAd_lt hA hb' hbl)) (fun z _ => ?_)
            unfold aCv aRd
            split <;> simp [aMul, show ¬ h.1.length ≤ b by omega]
          · refine ⟨fun z => by simp at z, fun _ => ?_⟩
            rw [aAd_top hA, f2]
            refine congrArg some (congrArg (arrV _ _) (funext fun z => ?_))
            unfold aCv
            rw [show aKd (104, n.toNatClampNeg) z = 2 by simp [aKd], show aRd (aMul h 104 100 n.toNatClampNeg kk.toNatClampNeg) 2 h.1.length z = aRf (if z < n.toNatClampNeg then some (h.1.length + 1 + z) else none) by simp [aRd, aMul], aTv_rf]
            by_cases hz : z < n.toNatClampNeg
            · simp only [if_pos hz, Option.map_some]
              congr 2
              rw [aAd_new E (by omega)]
              omega
            · simp [if_neg hz]
          · refine ⟨fun z => by simp at z, fun _ => ?_⟩
            rw [aAd_new E (by omega), show E.2.2.2 + (h.1.length + 1 + j - aK) = H.size + 1 + j by omega, hrow j hj]
            refine congrArg some (congrArg (arrV _ _) (funext fun z => ?_))
            unfold aCv
            rw [show aKd (100, kk.toNatClampNeg) z = 0 by simp [aKd]]
            simp [aRd, aMul, aTv, show h.1.length ≤ h.1.length + 1 + j by omega]
        · rcases aMul_at hs' with ⟨hbl, hs0⟩ | ⟨rfl, rfl⟩ | ⟨j, hj, rfl, rfl⟩
          · exact hA.2.2.2.2 b sh hb' hs0
          · simp
          · simp
      have hk := k ls F.heap locs hL hR (hS.grow (by rw [f1]; omega) hold)
      simp only [aMul, List.length_append, List.length_cons, List.length_replicate, List.map_cons] at hk
      rw [show h.1.length + (n.toNatClampNeg + 1) - b0 = h.1.length - b0 + 1 + n.toNatClampNeg by omega, show h.2.1 + n.toNatClampNeg + n.toNatClampNeg * kk.toNatClampNeg - b1 = h.2.1 - b1 + n.toNatClampNeg + n.toNatClampNeg * kk.toNatClampNeg by omega] at hk
      simp only [aTv, aAd_top hA] at hk
      obtain ⟨t9, a9, b9⟩ := hk F rfl X'
      refine ⟨t9, step t9 ?_, b9⟩
      have ez : T.heap.size = H.size := by rw [hT]
      rw [ez]
      exact a9
    · cases hs
  · cases hs
theorem int_clamp {z : Int32} (hz : ¬ z < 0) : z.toInt = (z.toNatClampNeg : Int) := by
  have hz0 : (0 : Int) ≤ z.toInt := by
    have := Int32.not_lt.mp hz
    simpa using Int32.le_iff_toInt_le.mp this
  show z.toInt = ((z.toInt.toNat : Nat) : Int)
  omega
/-- what a copy needs of a row of ints, old or new -/
theorem aSrc {h : aM} {H : Heap} {locs : List Loc} {a la : Nat} (hK : aKS E O s) (hA : aR E O h H) (hS : va_S (aNw E) s.heap H locs) (h1 : h.1[a]? = some (100, la)) : ∃ cs : Cell, H[aAd E a]? = some cs ∧ (∀ q, cs.vm ≠ .statics q) ∧ cs.vm ≠ .unknown ∧ (∃ ks comp, s.vm.classes[cs.cls]? = some ks ∧ ks.kind = .array comp .int) ∧ la ≤ cs.slots.size ∧ ∀ j, j < la → cs.slots[j]? = some (.int (h.2.2.1 a j)) := by
  by_cases ha : a < aK
  · obtain ⟨cell, c1, ⟨c2, ks, c3, comp, c4⟩, c5, c6, -, c7, c8⟩ := hK.2.2.2.1 a _ ha (aOld_at hA ha h1) (by simp)
    refine ⟨cell, by rw [hS.2.1 _ (Array.getElem?_eq_some_iff.mp c1).1 c8]; exact c1, c2, c5, ⟨ks, comp, c3, c4⟩, c6, fun j hj => ?_⟩
    rw [c7 j hj, ((hA.2.2.1 a ha).2 j).1]
  · have hc2 := (hA.2.2.2.1 a _ (Nat.le_of_not_lt ha) h1).2 (by simp)
    obtain ⟨-, ks, c3, comp, c4⟩ := (aArrOf hK (Or.inl rfl)).1 la (aCv E h a (100, la))
    refine ⟨_, hc2, fun q z => (by cases z), fun z => (by cases z), ⟨ks, comp, c3, c4⟩, by rw [arrV_size]; exact Nat.le_refl _, fun j hj => ?_⟩
    rw [arrV_read _ _ hj]
    simp [aCv, aKd, aRd, aTv]
theorem sn_cpy {i r1 r2 r3 pc nL : Nat} {lv : aV} {st : List Value} {h : aM} {o : aO} (hx : p.tables.exec = Jvm.exec) (hb : c.code = cc) (hml : c.maxLocals = nL) (hll : lv.length = nL) (hts : ∀ w ∈ aWs, w.before args s = true) (hown : s.vm.findClass own = some m.cls) (hK : aKS E O s) (hd : decode cc pc = .ok (.invokestatic i, 3))
    (hv : Cond.methodLink own i arraycopyName ∈ aWs ∧ Cond.native arraycopyName ∈ aWs ∧ Cond.static arraycopyName ∈ aWs ∧ Cond.initialized "java/lang/System" ∈ aWs) (hf : 1 ≤ R.frames) (hlo : 8 + (nativeFrameWords "java/lang/System" "arraycopy" 5 + 11) ≤ R.locals) (hs : aStep (.invokestatic i) 3 r1 r2 r3 pc lv st h = some o)
    (k : aG p l e R s m args below meth c Q E O b0 b1 o.1 o.2.1 o.2.2.1 o.2.2.2) : aG p l e R s m args below meth c Q E O b0 b1 pc lv st h := by
  simp only [aStep] at hs
  split at hs
  · unfold aCpy at hs
    split at hs
    · rename_i n dp b sp a t
      split at hs
      · rename_i la lb ha hbb
        split at hs
        · rename_i hc
          cases hs
          obtain ⟨h3, h2, h1, h4, h5, hbK, hcat⟩ := hc
          intro ls H locs hL hA hS
          obtain ⟨cs, s1, s2, s3, ⟨ks, scomp, s4, s5⟩, s6, s7⟩ := aSrc hK hA hS ha
          have hc2 := (hA.2.2.2.1 b _ hbK hbb).2 (by simp)
          obtain ⟨-, kd, d3, dcomp, d4⟩ := (aArrOf hK (Or.inl rfl)).1 lb (aCv E h b (100, lb))
          intro T hT X
          obtain ⟨vm', X', step⟩ := X.arraycopy hx hown (hts _ hv.1) (hts _ hv.2.1) (hts _ hv.2.2.1) (hts _ hv.2.2.2) (src := aAd E a) (dst := aAd E b) (cs := cs) (cd := arrV (E.2.1 100) lb (aCv E h b (100, lb))) (srcPos := sp) (destPos := dp) (n := n) (by rw [hT]; exact s1) (by rw [hT]; exact hc2)
            s2 (fun _ z => by cases z) s3 (fun z => by cases z) s4 d3 s5 d4 (by rfl) h1 h2 h3 (by rw [int_clamp h1, int_clamp h3]; omega) (by rw [int_clamp h2, int_clamp h3, arrV_size]; omega)
            (fun vm₁ _ z hz => by
              have ez : cs.slots.getD (sp.toNatClampNeg + z) .null = .int (h.2.2.1 a (sp.toNatClampNeg + z)) := by
                rw [Array.getD_eq_getD_getElem?, s7 _ (by omega)]
                rfl
              rw [ez]
              exact ⟨rfl, trivial⟩)
            (g := F0 m pc ls (.int n :: .int dp :: .ref (aAd E b) :: .int sp :: .ref (aAd E a) :: t.map (aTv E))) rfl (by rw [hml, ← hll]; exact hL.1) (rest := t.map (aTv E)) rfl (by rw [hb]; exact hd) hf (by show 2 * 0 + _ + _ ≤ _; rw [aCat_map]; omega)
          have e0 : cs.stretch sp.toNatClampNeg n.toNatClampNeg = (arrV (E.2.1 100) la (fun j => .int (h.2.2.1 a j))).stretch sp.toNatClampNeg n.toNatClampNeg := by
            unfold Cell.stretch
            apply List.map_congr_left
            intro z hz
            have hz' := List.mem_range.mp hz
            rw [Array.getD_eq_getD_getElem?, s7 _ (by omega), Array.getD_eq_getD_getElem?, arrV_read _ _ (by omega)]
          have eb : aCv E h b (100, lb) = fun j => .int (h.2.2.1 b j) := by
            funext j
            simp [aCv, aKd, aRd, aTv]
          have e1 : copied cs (arrV (E.2.1 100) lb (aCv E h b (100, lb))) sp dp n = arrV (E.2.1 100) lb (fun j => .int (va_cpy (h.2.2.1 a) (h.2.2.1 b) sp.toNatClampNeg dp.toNatClampNeg n.toNatClampNeg j)) := by
            show (arrV (E.2.1 100) lb (aCv E h b (100, lb))).storeRun dp.toNatClampNeg (cs.stretch sp.toNatClampNeg n.toNatClampNeg) = _
            rw [e0, eb]
            exact va_copied (fun z => .int z) _ _ _ _ h4
          rw [e1] at X' step
          have hl : aAd E b < H.size := (Array.getElem?_eq_some_iff.mp hc2).1
          have hnb := aAd_nw E hbK
          generalize hcell : arrV (E.2.1 100) lb (fun j => .int (va_cpy (h.2.2.1 a) (h.2.2.1 b) sp.toNatClampNeg dp.toNatClampNeg n.toNatClampNeg j)) = cell at X' step
          have hheap : ((T.setVm vm').setCell (aAd E b) cell).heap = H.setIfInBounds (aAd E b) cell := by rw [← hT]; rfl
          have oq : ∀ q : Nat, q ≠ aAd E b → (H.setIfInBounds (aAd E b) cell)[q]? = H[q]? := fun q hq => by simp [Array.getElem?_setIfInBounds, Ne.symm hq]
          have hR : aR E O (h.1, h.2.1, aRow h.2.2.1 b (va_cpy (h.2.2.1 a) (h.2.2.1 b) sp.toNatClampNeg dp.toNatClampNeg n.toNatClampNeg), h.2.2.2.1, h.2.2.2.2) (H.setIfInBounds (aAd E b) cell) := by
            refine hA.put hbK hbb rfl (fun b' j hb' => ⟨by simp [aRow, hb'], rfl, rfl⟩) (by simp) oq ⟨fun z => by simp at z, fun _ => ?_⟩
            rw [show (H.setIfInBounds (aAd E b) cell)[aAd E b]? = some cell by simp [Array.getElem?_setIfInBounds, hl], ← hcell]
            refine congrArg some (congrArg (arrV _ _) (funext fun j => ?_))
            simp [aCv, aKd, aRd, aTv, aRow]
          obtain ⟨t9, a9, b9⟩ := k ls _ _ hL hR ⟨by simp; exact hS.1, fun q g1 g2 => by
              rw [oq q (fun z => g2 (by rw [z]; exact hnb))]
              exact hS.2.1 q g1 g2, fun q hq => by
              rcases List.mem_append.mp hq with z | z
              · exact hS.2.2 q z
              · obtain ⟨w, -, hw⟩ := List.mem_map.mp z
                rw [← hw]
                exact hnb⟩ _ hheap X'
          exact ⟨t9, step t9 a9, b9⟩
        · cases hs
      · cases hs
    · cases hs
  · cases hs
end MEM4
