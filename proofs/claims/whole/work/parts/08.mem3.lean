/-! ===== AM and the JVM: new cells, constants, copies ===== -/
theorem aAd_top {E : aE} {O : aOl} {h : aM} {H : Heap} (R0 : aR E O h H) : aAd E h.1.length = H.size := by
  rw [aAd_new E R0.1]
  have := R0.1
  have := R0.2.1
  omega
theorem aAd_lt {E : aE} {O : aOl} {h : aM} {H : Heap} (R0 : aR E O h H) {i : Nat} (hi : aK ≤ i) (hl : i < h.1.length) : aAd E i < H.size := by
  rw [aAd_new E hi]
  have := R0.2.1
  omega
theorem aR.new {E : aE} {O : aOl} {h : aM} {H H' : Heap} {sh : Nat × Nat} (R0 : aR E O h H) (hz : H'.size = H.size + 1) (hq : ∀ q, q < H.size → H'[q]? = H[q]?) (hc : aCell E (aNew h sh) h.1.length sh H') (hne : sh.1 ≠ 103) : aR E O (aNew h sh) H' := by
  have hkl := R0.1
  refine ⟨by simp [aNew]; omega, by simp [aNew]; have := R0.2.1; omega, fun i hi => ?_, fun i sh' hi hs => ?_, fun i sh' hi hs => ?_⟩
  · have hil : i < h.1.length := by omega
    refine ⟨by simp only [aNew]; rw [List.getElem?_append_left hil]; exact (R0.2.2.1 i hi).1, fun j => ?_⟩
    have hne' : i ≠ h.1.length := by omega
    simp only [aNew, aRow, if_neg hne']
    exact (R0.2.2.1 i hi).2 j
  · simp only [aNew] at hs
    by_cases hil : i < h.1.length
    · rw [List.getElem?_append_left hil] at hs
      refine (R0.2.2.2.1 i sh' hi hs).kept (hq _ (aAd_lt R0 hi hil)) (fun k _ => ?_)
      have hne' : i ≠ h.1.length := by omega
      unfold aCv aRd
      split <;> simp [aNew, aRow, if_neg hne']
    · rw [List.getElem?_append_right (by omega)] at hs
      have h0 : i - h.1.length < 1 := (List.getElem?_eq_some_iff.mp hs).1
      have e0 : i = h.1.length := by omega
      subst e0
      simp at hs
      subst hs
      exact hc
  · simp only [aNew] at hs
    by_cases hil : i < h.1.length
    · rw [List.getElem?_append_left hil] at hs
      exact R0.2.2.2.2 i sh' hi hs
    · rw [List.getElem?_append_right (by omega)] at hs
      have h0 : i - h.1.length < 1 := (List.getElem?_eq_some_iff.mp hs).1
      rw [show i - h.1.length = 0 by omega] at hs
      simp at hs
      subst hs
      exact hne
theorem aNew_cv (E : aE) (h : aM) (sh : Nat × Nat) (k : Nat) : aCv E (aNew h sh) h.1.length sh k = (match aKd sh k with
    | 1 => .long 0
    | 2 => .null
    | _ => .int 0) := by
  unfold aCv
  generalize aKd sh k = q
  rcases q with _ | _ | _ | q <;> simp [aRd, aNew, aRow, aTv, aRf]
theorem aFk_9 (c k : Nat) : 9 ≠ aFk c k := by
  unfold aFk
  have h9 : ∀ q ∈ aKinds, ∀ z ∈ q, z ≠ 9 := by decide +kernel
  intro hh
  by_cases hcc : c < aKinds.length
  · have hm : aKinds.getD c [] ∈ aKinds := by
      rw [List.getD_eq_getElem?_getD, List.getElem?_eq_getElem hcc]
      exact List.getElem_mem hcc
    generalize aKinds.getD c [] = L at hm hh
    by_cases hkk : k < L.length
    · rw [List.getD_eq_getElem?_getD, List.getElem?_eq_getElem hkk] at hh
      exact h9 L hm _ (List.getElem_mem hkk) hh.symm
    · rw [List.getD_eq_getElem?_getD, List.getElem?_eq_none (by omega)] at hh
      simp at hh
  · rw [List.getD_eq_getElem?_getD (l := aKinds), List.getElem?_eq_none (by omega)] at hh
    simp at hh
theorem va_S.grow {A : Nat → Prop} {H0 H H1 : Heap} {locs : List Loc} (h : va_S A H0 H locs) (hz : H.size ≤ H1.size) (hq : ∀ q, q < H.size → H1[q]? = H[q]?) : va_S A H0 H1 locs := by
  have h1 := h.1
  exact ⟨by omega, fun q a b => (hq q (by omega)).trans (h.2.1 q a b), h.2.2⟩
section MEM3
variable {p : Program} {l : Launch} {e : Env} {R : Room} {s : State} {m : MethodId} {args : Array Value} {below : List Frame} {meth : Method} {c : Code} {Q : State → Prop}
variable {cc : ByteArray} {E : aE} {O : aOl} {b0 b1 : Nat} {own : String}
theorem sn_new {i r1 r2 r3 pc : Nat} {lv : aV} {st : List Value} {h : aM} {o : aO} (hx : p.tables.exec = Jvm.exec) (hb : c.code = cc) (hts : ∀ w ∈ aWs, w.before args s = true) (hown : s.vm.findClass own = some m.cls) (hK : aKS E O s) (hd : decode cc pc = .ok (.new i, 3))
    (hv : ∃ r : vw_C, aCl[r1]? = some r ∧ Cond.classLink own i r.1 ∈ aWs ∧ Cond.instantiable r.1 r.2.2 ∈ aWs ∧ Cond.initialized r.1 ∈ aWs) (hs : aStep (.new i) 3 r1 r2 r3 pc lv st h = some o)
    (hb0 : b0 ≤ h.1.length) (hb1 : b1 ≤ h.2.1) (hc : o.2.2.2.1.length - b0 ≤ R.cells) (hsl : o.2.2.2.2.1 - b1 ≤ R.slots)
    (k : aG p l e R s m args below meth c Q E O b0 b1 o.1 o.2.1 o.2.2.1 o.2.2.2) : aG p l e R s m args below meth c Q E O b0 b1 pc lv st h := by
  obtain ⟨r, h1, hcl, hin, hini⟩ := hv
  simp only [aStep] at hs
  cases hs
  intro ls H locs hL hA hS
  have hlt := (List.getElem?_eq_some_iff.mp h1).1
  have hlt' : r1 < 12 := by simpa [aCl] using hlt
  obtain ⟨t1, t2, t3, ty, t4, t5⟩ := aCl_ok _ _ h1
  have hKn := hK.1.1 r1 _ h1
  simp only [aNew, List.length_append, List.length_singleton] at hc hsl
  refine W.newcK hx hb hown (hts _ hcl) (hts _ hin) (hts _ hini) rfl hd (by omega) (by rw [t3]; omega) hKn.2.1 rfl fun H1 kC hkC e1 z1 o1 => ?_
  have hR : aR E O (aNew h (r1, aNf r1)) H1 := by
    refine hA.new z1 o1 ⟨fun _ => ⟨r, h1, t3.symm, ?_⟩, fun z => by simp at z; omega⟩ (by simp; omega)
    rw [aAd_top hA]
    refine (u_born ty hts t1 hKn hkC e1 t4).to (fun j hj => ?_)
    rw [aNew_cv]
    have hkd : aKd (r1, aNf r1) j = aKt (ty j) := by rw [t5 j hj]; simp [aKd, show r1 < 100 by omega]
    have h59 := t5 j hj
    rw [hkd]
    cases hty : ty j <;> first | rfl | skip
    all_goals exfalso
    all_goals rw [hty] at h59
    all_goals simp only [aKt] at h59
    all_goals exact aFk_9 _ _ h59
  have hk := k ls H1 locs hL hR (hS.grow (by omega) o1)
  simp only [aNew, List.length_append, List.length_singleton, List.map_cons] at hk
  rw [show h.1.length + 1 - b0 = h.1.length - b0 + 1 by omega, show h.2.1 + aNf r1 - b1 = h.2.1 - b1 + aNf r1 by omega] at hk
  simp only [aTv, aAd_top hA] at hk
  rw [t3]
  exact hk
theorem sn_newarr {pc q tg : Nat} {lv : aV} {t : List Value} {n : Int32} {h : aM} (hb0 : b0 ≤ h.1.length) (hb1 : b1 ≤ h.2.1) (htg : 100 ≤ tg ∧ tg ≠ 103)
    (hdv : defaultValue (aTyp tg) = (match aKd (tg, n.toNatClampNeg) 0 with
      | 1 => .long 0
      | 2 => .null
      | _ => .int 0))
    (hrow : ∀ (ls : Array Slot) (H : Heap) (locs : List Loc), (∀ H1 : Heap, H1.size = H.size + 1 → H1[H.size]? = some (arrV (E.2.1 tg) n.toNatClampNeg (fun _ => defaultValue (aTyp tg))) → (∀ x, x < H.size → H1[x]? = H[x]?) → W p l e R s m args below meth c H1 locs (h.1.length - b0 + 1) (h.2.1 - b1 + n.toNatClampNeg) Q (F0 m q ls (.ref H.size :: t.map (aTv E)))) → W p l e R s m args below meth c H locs (h.1.length - b0) (h.2.1 - b1) Q (F0 m pc ls (.int n :: t.map (aTv E))))
    (k : aG p l e R s m args below meth c Q E O b0 b1 q lv (.ref h.1.length :: t) (aNew h (tg, n.toNatClampNeg))) : aG p l e R s m args below meth c Q E O b0 b1 pc lv (.int n :: t) h := by
  intro ls H locs hL hA hS
  refine hrow ls H locs fun H1 z1 e1 o1 => ?_
  have hR : aR E O (aNew h (tg, n.toNatClampNeg)) H1 := by
    refine hA.new z1 o1 ⟨fun z => by simp at z; omega, fun _ => ?_⟩ htg.2
    rw [aAd_top hA, e1]
    refine congrArg some (congrArg (arrV _ _) (funext fun j => ?_))
    rw [aNew_cv, hdv]
    have : aKd (tg, n.toNatClampNeg) j = aKd (tg, n.toNatClampNeg) 0 := by simp [aKd, show ¬ tg < 100 by omega]
    rw [this]
  have hk := k ls H1 locs hL hR (hS.grow (by omega) o1)
  simp only [aNew, List.length_append, List.length_singleton, List.map_cons] at hk
  rw [show h.1.length + 1 - b0 = h.1.length - b0 + 1 by omega, show h.2.1 + n.toNatClampNeg - b1 = h.2.1 - b1 + n.toNatClampNeg by omega] at hk
  simp only [aTv, aAd_top hA] at hk
  exact hk
theorem aNa_inv {tg q : Nat} {lv : aV} {st : List Value} {h : aM} {o : aO} (hs : aNa tg q lv st h = some o) : ∃ n t, st = .int n :: t ∧ ¬ n < 0 ∧ n.toNatClampNeg ≤ 1000000 ∧ o = (q, lv, .ref h.1.length :: t, aNew h (tg, n.toNatClampNeg)) := by
  unfold aNa at hs
  split at hs
  · rename_i n t
    split at hs
    · rename_i hc
      cases hs
      exact ⟨n, t, rfl, hc.1, hc.2, rfl⟩
    · cases hs
  · cases hs
theorem sn_na {ty : ArrayType} {r1 r2 r3 pc : Nat} {lv : aV} {st : List Value} {h : aM} {o : aO} (hx : p.tables.exec = Jvm.exec) (hb : c.code = cc) (hts : ∀ w ∈ aWs, w.before args s = true) (hK : aKS E O s) (hd : decode cc pc = .ok (.newarray ty, 2))
    (hv : (ty = .int ∧ r1 = 100) ∨ (ty = .long ∧ r1 = 101) ∨ (ty = .boolean ∧ r1 = 102)) (hw : Cond.arrayClass (newarray.typeOf ty) ∈ aWs) (hs : aStep (.newarray ty) 2 r1 r2 r3 pc lv st h = some o)
    (hb0 : b0 ≤ h.1.length) (hb1 : b1 ≤ h.2.1) (hc : o.2.2.2.1.length - b0 ≤ R.cells) (hsl : o.2.2.2.2.1 - b1 ≤ R.slots)
    (k : aG p l e R s m args below meth c Q E O b0 b1 o.1 o.2.1 o.2.2.1 o.2.2.2) : aG p l e R s m args below meth c Q E O b0 b1 pc lv st h := by
  simp only [aStep] at hs
  obtain ⟨n, t, rfl, hn, hn2, rfl⟩ := aNa_inv hs
  simp only [aNew, List.length_append, List.length_singleton] at hc hsl
  have hty : newarray.typeOf ty = aTyp r1 := by rcases hv with ⟨rfl, rfl⟩ | ⟨rfl, rfl⟩ | ⟨rfl, rfl⟩ <;> rfl
  have hbt : componentBytes (aTyp r1) ≤ 8 := by rcases hv with ⟨rfl, rfl⟩ | ⟨rfl, rfl⟩ | ⟨rfl, rfl⟩ <;> decide
  have hnm : s.vm.findClass ("[" ++ (aTyp r1).toString) = some (E.2.1 r1) := by
    have := (aArrOf hK (t := r1) (by omega)).2
    rcases hv with ⟨rfl, rfl⟩ | ⟨rfl, rfl⟩ | ⟨rfl, rfl⟩ <;> exact this
  refine sn_newarr hb0 hb1 (by omega) ?_ ?_ k
  · rcases hv with ⟨rfl, rfl⟩ | ⟨rfl, rfl⟩ | ⟨rfl, rfl⟩ <;> rfl
  · intro ls H locs kk
    refine va_newaK hx hb (hts _ hw) rfl hd rfl hn rfl (by rw [hty]; have := Nat.mul_le_mul hn2 hbt; omega) (by omega) (by omega) rfl fun H1 cA e1 z1 o1 _ hN => ?_
    rw [hty] at e1 hN
    have hcA : cA = E.2.1 r1 := Option.some.inj (hN.symm.trans hnm)
    rw [hcA] at e1
    exact kk H1 z1 e1 o1
theorem sn_an {i r1 r2 r3 pc : Nat} {lv : aV} {st : List Value} {h : aM} {o : aO} (hx : p.tables.exec = Jvm.exec) (hb : c.code = cc) (hts : ∀ w ∈ aWs, w.before args s = true) (hown : s.vm.findClass own = some m.cls) (hK : aKS E O s) (hd : decode cc pc = .ok (.anewarray i, 3))
    (hv : (r1 = 105 ∧ Cond.classLink own i "GallopDispatch$Law" ∈ aWs) ∨ (r1 = 106 ∧ Cond.classLink own i "GallopDispatch$State" ∈ aWs)) (hs : aStep (.anewarray i) 3 r1 r2 r3 pc lv st h = some o)
    (hb0 : b0 ≤ h.1.length) (hb1 : b1 ≤ h.2.1) (hc : o.2.2.2.1.length - b0 ≤ R.cells) (hsl : o.2.2.2.2.1 - b1 ≤ R.slots)
    (k : aG p l e R s m args below meth c Q E O b0 b1 o.1 o.2.1 o.2.2.1 o.2.2.2) : aG p l e R s m args below meth c Q E O b0 b1 pc lv st h := by
  simp only [aStep] at hs
  obtain ⟨n, t, rfl, hn, hn2, rfl⟩ := aNa_inv hs
  simp only [aNew, List.length_append, List.length_singleton] at hc hsl
  have key : ∃ C, aTyp r1 = .object C ∧ Cond.classLink own i C ∈ aWs ∧ va_AO C s := by
    rcases hv with ⟨rfl, h1⟩ | ⟨rfl, h1⟩
    · exact ⟨_, rfl, h1, hK.2.2.2.2.2.2.2.2.1⟩
    · exact ⟨_, rfl, h1, hK.2.2.2.2.2.2.2.2.2.1⟩
  obtain ⟨C, hC, hcl, hao⟩ := key
  have hra := (aArrOf hK (t := r1) (by omega)).2
  rw [hC] at hra
  obtain ⟨-, -, -, -, -, hnm⟩ := hra
  refine sn_newarr hb0 hb1 (by omega) ?_ ?_ k
  · rcases hv with ⟨rfl, -⟩ | ⟨rfl, -⟩ <;> rfl
  · intro ls H locs kk
    refine W.anew hx hb hown (hts _ hcl) (va_AO.use hao) rfl hd rfl hn (by omega) (by omega) (by omega) fun cA kA comp f1 f2 f3 f4 => ?_
    have hcA : cA = E.2.1 r1 := Option.some.inj (f1.symm.trans hnm)
    refine kk _ (by simp) ?_ (fun q hq => by rw [Array.getElem?_push, if_neg (Nat.ne_of_lt hq)])
    rw [Array.getElem?_push_size, hC, arrV_new, hcA]
    rfl
theorem sn_ldc {i n r1 r2 r3 pc : Nat} {lv : aV} {st : List Value} {h : aM} {o : aO} (hx : p.tables.exec = Jvm.exec) (hb : c.code = cc) (hts : ∀ w ∈ aWs, w.before args s = true) (hown : s.vm.findClass own = some m.cls) (hK : aKS E O s) (hd : decode cc pc = .ok (.ldc i, 2))
    (hv : (r1 = 0 ∧ Cond.constant own i (nI r2) ∈ aWs) ∨ (r1 = 1 ∧ ∃ tx, (own, i, tx, r2) ∈ aStrs)) (hs : aStep (.ldc i) 2 r1 r2 r3 pc lv st h = some o)
    (k : aG p l e R s m args below meth c Q E O b0 b1 o.1 o.2.1 o.2.2.1 o.2.2.2) : aG p l e R s m args below meth c Q E O b0 b1 pc lv st h := by
  simp only [aStep] at hs
  cases hs
  intro ls H locs hL hA hS
  have hk := k ls H locs hL hA hS
  rcases hv with ⟨rfl, hc⟩ | ⟨rfl, tx, hc⟩
  · exact lv_ldc hx hb hown (hts _ hc) hd hk
  · exact va_ldcS hx hb hown (hK.2.2.2.2.2.2.1 _ hc) hd hk
theorem sn_ldcw {i r1 r2 r3 pc : Nat} {lv : aV} {st : List Value} {h : aM} {o : aO} (hx : p.tables.exec = Jvm.exec) (hb : c.code = cc) (hts : ∀ w ∈ aWs, w.before args s = true) (hown : s.vm.findClass own = some m.cls) (hd : decode cc pc = .ok (.ldc_w i, 3))
    (hv : Cond.constant own i (nI r2) ∈ aWs) (hs : aStep (.ldc_w i) 3 r1 r2 r3 pc lv st h = some o)
    (k : aG p l e R s m args below meth c Q E O b0 b1 o.1 o.2.1 o.2.2.1 o.2.2.2) : aG p l e R s m args below meth c Q E O b0 b1 pc lv st h := by
  simp only [aStep] at hs
  split at hs
  · cases hs
    exact fun ls H locs hL hA hS => lv_ldcw hx hb hown (hts _ hv) hd (k ls H locs hL hA hS)
  · cases hs
theorem sn_ldc2 {i r1 r2 r3 pc : Nat} {lv : aV} {st : List Value} {h : aM} {o : aO} (hx : p.tables.exec = Jvm.exec) (hb : c.code = cc) (hts : ∀ w ∈ aWs, w.before args s = true) (hown : s.vm.findClass own = some m.cls) (hd : decode cc pc = .ok (.ldc2_w i, 3))
    (hv : Cond.constantLong own i (lN r2) ∈ aWs) (hs : aStep (.ldc2_w i) 3 r1 r2 r3 pc lv st h = some o)
    (k : aG p l e R s m args below meth c Q E O b0 b1 o.1 o.2.1 o.2.2.1 o.2.2.2) : aG p l e R s m args below meth c Q E O b0 b1 pc lv st h := by
  simp only [aStep] at hs
  cases hs
  exact fun ls H locs hL hA hS => lv_ldc2 hx hb hown (hts _ hv) hd (k ls H locs hL hA hS)
theorem sn_gets {i r1 r2 r3 pc : Nat} {lv : aV} {st : List Value} {h : aM} {o : aO} (hx : p.tables.exec = Jvm.exec) (hb : c.code = cc) (hts : ∀ w ∈ aWs, w.before args s = true) (hown : s.vm.findClass own = some m.cls) (hK : aKS E O s) (hd : decode cc pc = .ok (.getstatic i, 3))
    (hv : ∃ C n d, (C, n, d, r1, r2) ∈ aStats ∧ Cond.fieldLink own i C n d ∈ aWs) (hs : aStep (.getstatic i) 3 r1 r2 r3 pc lv st h = some o)
    (k : aG p l e R s m args below meth c Q E O b0 b1 o.1 o.2.1 o.2.2.1 o.2.2.2) : aG p l e R s m args below meth c Q E O b0 b1 pc lv st h := by
  obtain ⟨C, n, d, hm, hl⟩ := hv
  simp only [aStep] at hs
  cases hs
  intro ls H locs hL hA hS
  exact va_gets hx hb (hK.2.2.2.2.2.1 _ hm) hS hown (hts _ hl) (fun _ z => z) hd (k ls H locs hL hA hS)
theorem aCat_map (E : aE) (t : List Value) : ((t.map (aTv E)).map fun v => v.category).sum = (t.map fun v => v.category).sum := by
  induction t with
  | nil => rfl
  | cons v t ih => simp only [List.map_cons, List.sum_cons, aTv_cat, ih]
theorem sn_obj {i r1 r2 r3 pc nL : Nat} {lv : aV} {st : List Value} {h : aM} {o : aO} (hx : p.tables.exec = Jvm.exec) (hb : c.code = cc) (hml : c.maxLocals = nL) (hll : lv.length = nL) (hts : ∀ w ∈ aWs, w.before args s = true) (hown : s.vm.findClass own = some m.cls) (hd : decode cc pc = .ok (.invokespecial i, 3))
    (hv : Cond.methodLink own i Lib.objectInit ∈ aWs ∧ Cond.instanceMethod Lib.objectInit ∈ aWs ∧ Cond.code Lib.objectInit ⟨#[0xb1]⟩ 1 none ∈ aWs) (hf : 1 ≤ R.frames) (hlo : 20 ≤ R.locals) (hs : aStep (.invokespecial i) 3 r1 r2 r3 pc lv st h = some o)
    (k : aG p l e R s m args below meth c Q E O b0 b1 o.1 o.2.1 o.2.2.1 o.2.2.2) : aG p l e R s m args below meth c Q E O b0 b1 pc lv st h := by
  simp only [aStep] at hs
  split at hs
  · rename_i a t
    split at hs
    · rename_i hc
      cases hs
      intro ls H locs hL hA hS
      refine W.objInit hx hb hown (hts _ hv.1) (hts _ hv.2.1) (hts _ hv.2.2) rfl (by rw [hml, ← hll]; exact hL.1) rfl hd hf ?_ (k ls H locs hL hA hS)
      show 2 * 0 + _ + 12 ≤ _
      rw [aCat_map]
      omega
    · cases hs
  · cases hs
end MEM3
