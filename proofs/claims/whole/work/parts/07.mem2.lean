/-! ===== AM and the JVM: stores ===== -/
/-- one place is written -/
def aW1 (h h' : aM) (a k : Nat) (v : Value) (kd : Nat) : Prop := h'.1 = h.1 ∧ h'.2.1 = h.2.1 ∧ (∀ b j, ¬ (b = a ∧ j = k) → h'.2.2.1 b j = h.2.2.1 b j ∧ h'.2.2.2.1 b j = h.2.2.2.1 b j ∧ h'.2.2.2.2 b j = h.2.2.2.2 b j) ∧ aRd h' kd a k = v
theorem aU_ne {α : Type} {f : Nat → Nat → α} {a k b j : Nat} {v : α} (h : ¬ (b = a ∧ j = k)) : aU f a k v b j = f b j := if_neg h
theorem aU_eq {α : Type} {f : Nat → Nat → α} {a k : Nat} {v : α} : aU f a k v a k = v := if_pos ⟨rfl, rfl⟩
theorem aWi_1 (h : aM) (a k : Nat) (x : Int32) {kd : Nat} (hk : kd ≠ 1 ∧ kd ≠ 2) : aW1 h (aWi h a k x) a k (.int x) kd := by
  refine ⟨rfl, rfl, fun b j hn => ⟨aU_ne hn, rfl, rfl⟩, ?_⟩
  unfold aRd
  split
  · exact absurd rfl hk.1
  · exact absurd rfl hk.2
  · show Value.int (aU _ _ _ _ _ _) = _
    rw [aU_eq]
theorem aWl_1 (h : aM) (a k : Nat) (x : Int64) : aW1 h (aWl h a k x) a k (.long x) 1 := ⟨rfl, rfl, fun b j hn => ⟨rfl, aU_ne hn, rfl⟩, by show Value.long (aU _ _ _ _ _ _) = _; rw [aU_eq]⟩
theorem aWr_1 (h : aM) (a k : Nat) (x : Option Nat) : aW1 h (aWr h a k x) a k (aRf x) 2 := ⟨rfl, rfl, fun b j hn => ⟨rfl, rfl, aU_ne hn⟩, by show aRf (aU _ _ _ _ _ _) = _; rw [aU_eq]⟩
theorem aW1.cv {E : aE} {h h' : aM} {a k : Nat} {v : Value} {sh : Nat × Nat} (w : aW1 h h' a k v (aKd sh k)) (j : Nat) : updV (aCv E h a sh) k (aTv E v) j = aCv E h' a sh j := by
  unfold updV
  by_cases hj : j = k
  · rw [if_pos hj, hj]
    unfold aCv
    rw [w.2.2.2]
  · rw [if_neg hj]
    have e := w.2.2.1 a j (fun q => hj q.2)
    unfold aCv aRd
    split <;> simp [e]
theorem aR.wr {E : aE} {O : aOl} {h h' : aM} {H H' : Heap} {a k : Nat} {sh : Nat × Nat} {v : Value} (R0 : aR E O h H) (ha : aK ≤ a) (hs : h.1[a]? = some sh) (w : aW1 h h' a k v (aKd sh k)) (hz : H'.size = H.size) (oq : ∀ q, q ≠ aAd E a → H'[q]? = H[q]?)
    (hobj : sh.1 < 90 → ∃ r : vw_C, aCl[sh.1]? = some r ∧ sh.2 = r.2.2 ∧ t_OB (aAd E a) (E.1.1 sh.1) r.2.2 (E.1.2 sh.1) H' (updV (aCv E h a sh) k (aTv E v))) (harr : 100 ≤ sh.1 → H'[aAd E a]? = some (arrV (E.2.1 sh.1) sh.2 (updV (aCv E h a sh) k (aTv E v)))) : aR E O h' H' := by
  have hf : updV (aCv E h a sh) k (aTv E v) = aCv E h' a sh := funext w.cv
  rw [hf] at hobj harr
  exact R0.put ha hs w.1 (fun b j hb => w.2.2.1 b j (fun q => hb q.1)) hz oq ⟨hobj, harr⟩
theorem aKt_fit {E : aE} {ty : FieldType} {kind : Nat} {v : Value} (h : aKt ty = kind) (hv : (kind = 0 ∧ ∃ x, v = .int x) ∨ (kind = 1 ∧ ∃ x, v = .long x) ∨ (kind = 2 ∧ ∃ x, v = aRf x) ∨ (kind = 3 ∧ (v = .int 0 ∨ v = .int 1))) : narrow ty (aTv E v) = aTv E v ∧ fits ty (aTv E v) = true := by
  rcases hv with ⟨rfl, x, rfl⟩ | ⟨rfl, x, rfl⟩ | ⟨rfl, x, rfl⟩ | ⟨rfl, rfl | rfl⟩ <;> cases ty <;> simp [aKt] at h <;> first | exact ⟨rfl, rfl⟩ | (cases x <;> exact ⟨rfl, rfl⟩) | (constructor <;> decide)
section MEM2
variable {p : Program} {l : Launch} {e : Env} {R : Room} {s : State} {m : MethodId} {args : Array Value} {below : List Frame} {meth : Method} {c : Code} {Q : State → Prop}
variable {cc : ByteArray} {E : aE} {O : aOl} {b0 b1 : Nat} {own : String}
theorem aG.go {h h' : aM} {H' : Heap} {locs' : List Loc} {pc : Nat} {ls : Array Slot} {lv : aV} {st : List Value} (k : aG p l e R s m args below meth c Q E O b0 b1 pc lv st h') (e1 : h'.1.length = h.1.length) (e2 : h'.2.1 = h.2.1) (hL : aLR E ls lv) (hA : aR E O h' H') (hS : va_S (aNw E) s.heap H' locs') : W p l e R s m args below meth c H' locs' (h.1.length - b0) (h.2.1 - b1) Q (F0 m pc ls (st.map (aTv E))) := by
  have := k ls H' locs' hL hA hS
  rw [e1, e2] at this
  exact this
/-- the store into an object's field -/
theorem sn_put0 {i r1 r2 a pc : Nat} {lv : aV} {t : List Value} {v : Value} {h h' : aM} {r : vw_C} (hx : p.tables.exec = Jvm.exec) (hb : c.code = cc) (hts : ∀ w ∈ aWs, w.before args s = true) (hown : s.vm.findClass own = some m.cls) (hK : aKS E O s) (hd : decode cc pc = .ok (.putfield i, 3))
    (h1 : aCl[r1]? = some r) (hl : Cond.fieldLink own i (r.2.1 r2).1 (r.2.1 r2).2.1 (r.2.1 r2).2.2.1 ∈ aWs) (hfin : (r.2.1 r2).2.2.2 = false ∨ (meth.name = "<init>" ∧ (r.2.1 r2).1 = own)) (hc : h.1[a]? = some (r1, aNf r1)) (hc2 : r2 < aNf r1) (ha : aK ≤ a) (w : aW1 h h' a r2 v (aFk r1 r2))
    (hv : (aFk r1 r2 = 0 ∧ ∃ x, v = .int x) ∨ (aFk r1 r2 = 1 ∧ ∃ x, v = .long x) ∨ (aFk r1 r2 = 2 ∧ ∃ x, v = aRf x) ∨ (aFk r1 r2 = 3 ∧ (v = .int 0 ∨ v = .int 1))) (k : aG p l e R s m args below meth c Q E O b0 b1 (pc + 3) lv t h') : aG p l e R s m args below meth c Q E O b0 b1 pc lv (v :: .ref a :: t) h := by
  intro ls H locs hL hA hS
  have hlt := (List.getElem?_eq_some_iff.mp h1).1
  have hlt' : r1 < 12 := by simpa [aCl] using hlt
  obtain ⟨r', e1, e2, cell, q1, q2, q3, q4⟩ := (hA.2.2.2.1 a _ ha hc).1 (by simp; omega)
  cases h1.symm.trans e1
  obtain ⟨t1, t2, t3, ty, t4, t5⟩ := aCl_ok _ _ h1
  have hk2 : r2 < r.2.2 := by rw [t3]; exact hc2
  have hkd : aKd (r1, aNf r1) r2 = aFk r1 r2 := by simp [aKd, show r1 < 100 by omega]
  rw [← hkd] at w
  obtain ⟨hn, hfit⟩ := aKt_fit (E := E) (t5 r2 hk2) hv
  have hap := va_apart (own := own) hts t1 ty t4 t2 hK.1 h1
  obtain ⟨hSl, hfc, kC, hkC, hkind⟩ := hK.1.1 r1 _ h1
  obtain ⟨cf, kf, fi, f, hi, hsl⟩ := hSl r2 hk2
  have hst := (u_facts hfc hkC (u_lays hts t1 hk2) hi).1
  have hlay := hts _ (t1 _ (u_in_lay hk2))
  unfold u_lay at hlay
  have fin : ∀ H' : Heap, H'[aAd E a]? = some (cell.setSlot f.slot (aTv E v)) → H'.size = H.size → (∀ q, q ≠ aAd E a → H'[q]? = H[q]?) → W p l e R s m args below meth c H' (locs ++ [⟨aAd E a, f.slot⟩]) (h.1.length - b0) (h.2.1 - b1) Q (F0 m (pc + 3) ls (t.map (aTv E))) := by
    intro H' z1 z2 z3
    rw [hsl] at z1
    refine k.go (h := h) (by rw [w.1]) w.2.1 hL (hA.wr ha hc w z2 z3 (fun _ => ⟨r, h1, e2, _, z1, q2, q3, t_set q4 hap hk2 _⟩) (fun z => by simp at z; omega)) (hS.put z2 z3 (aAd_nw E ha))
  by_cases hf : (r.2.1 r2).2.2.2 = false
  · rw [if_neg (by rw [hf]; decide)] at hlay
    exact W.putK hx hb (f := f) ⟨hown, hts _ hl, ⟨_, _, _, hi⟩, hst⟩ (by rw [q2]; exact u_store hfc hkC hkind hlay hi (t4 r2 hk2) hn hfit) q1 q3 (by rw [hsl]; exact k2_hasslot (q4 r2 hk2)) rfl rfl hd fin
  · have hf' : (r.2.1 r2).2.2.2 = true := by simpa using hf
    obtain ⟨hin2, hdecl⟩ := hfin.resolve_left hf
    rw [if_pos hf'] at hlay
    have hcf : m.cls = cf := by
      obtain ⟨_, _, c', _, _, _, -, -, hfo', -, -, -, hown2, -⟩ := Cond.laysFinal_spec hlay
      have e1 : c' = cf := by have := hi.symm.trans hfo'; simp at this; exact this.1.symm
      rw [hdecl] at hown2
      rw [← e1]; exact Option.some.inj (hown.symm.trans hown2)
    exact W.putFinK hx hb hown (hts _ hl) hi hst hcf hin2 (by rw [q2]; exact u_fits hfc hkC hkind (Or.inr hlay) hi (t4 r2 hk2) hn hfit) q1 q3 (by rw [hsl]; exact k2_hasslot (q4 r2 hk2)) rfl rfl hd fin
theorem sn_put {i r1 r2 r3 pc : Nat} {lv : aV} {st : List Value} {h : aM} {o : aO} (hx : p.tables.exec = Jvm.exec) (hb : c.code = cc) (hts : ∀ w ∈ aWs, w.before args s = true) (hown : s.vm.findClass own = some m.cls) (hK : aKS E O s) (hd : decode cc pc = .ok (.putfield i, 3))
    (hv : ∃ r : vw_C, aCl[r1]? = some r ∧ Cond.fieldLink own i (r.2.1 r2).1 (r.2.1 r2).2.1 (r.2.1 r2).2.2.1 ∈ aWs ∧ r3 = aFk r1 r2 ∧ ((r.2.1 r2).2.2.2 = false ∨ (meth.name = "<init>" ∧ (r.2.1 r2).1 = own)))
    (hs : aStep (.putfield i) 3 r1 r2 r3 pc lv st h = some o) (k : aG p l e R s m args below meth c Q E O b0 b1 o.1 o.2.1 o.2.2.1 o.2.2.2) : aG p l e R s m args below meth c Q E O b0 b1 pc lv st h := by
  obtain ⟨r, h1, hl, rfl, hfin⟩ := hv
  simp only [aStep, aPut] at hs
  split at hs
  · rename_i v a t
    split at hs
    · rename_i hc
      generalize hkk : aFk r1 r2 = kk at hs
      split at hs
      · rename_i x
        cases hs
        exact sn_put0 hx hb hts hown hK hd h1 hl hfin hc.1 hc.2.1 hc.2.2 (aWi_1 h a r2 x (by omega)) (Or.inl ⟨hkk, _, rfl⟩) k
      · rename_i x
        cases hs
        exact sn_put0 hx hb hts hown hK hd h1 hl hfin hc.1 hc.2.1 hc.2.2 (by rw [hkk]; exact aWl_1 h a r2 x) (Or.inr (Or.inl ⟨hkk, _, rfl⟩)) k
      · rename_i x
        cases hs
        exact sn_put0 (v := aRf (some x)) hx hb hts hown hK hd h1 hl hfin hc.1 hc.2.1 hc.2.2 (by rw [hkk]; exact aWr_1 h a r2 (some x)) (Or.inr (Or.inr (Or.inl ⟨hkk, _, rfl⟩))) k
      · cases hs
        exact sn_put0 (v := aRf none) hx hb hts hown hK hd h1 hl hfin hc.1 hc.2.1 hc.2.2 (by rw [hkk]; exact aWr_1 h a r2 none) (Or.inr (Or.inr (Or.inl ⟨hkk, _, rfl⟩))) k
      · rename_i x
        split at hs
        · rename_i hx01
          cases hs
          exact sn_put0 hx hb hts hown hK hd h1 hl hfin hc.1 hc.2.1 hc.2.2 (aWi_1 h a r2 x (by omega)) (Or.inr (Or.inr (Or.inr ⟨hkk, by rcases hx01 with rfl | rfl <;> simp⟩))) k
        · cases hs
      · cases hs
    · cases hs
  · cases hs
/-- an array's cell -/
theorem aArr_inv {h : aM} {a : Nat} {i : Int32} {t1 t2 : Nat} (hs : aArr h a i t1 t2 = true) : ∃ sh, h.1[a]? = some sh ∧ (sh.1 = t1 ∨ sh.1 = t2) ∧ vp_in i sh.2 := by
  unfold aArr at hs
  split at hs
  · rename_i sh hsh
    simp only [Bool.and_eq_true, Bool.or_eq_true, decide_eq_true_eq, Bool.not_eq_true', Bool.or_eq_false_iff, decide_eq_false_iff_not] at hs
    exact ⟨sh, hsh, hs.1, fun q => q.elim hs.2.1 hs.2.2⟩
  · cases hs
theorem aArrOf (hK : aKS E O s) {t : Nat} (ht : t = 100 ∨ t = 101 ∨ t = 102 ∨ t = 104 ∨ t = 105 ∨ t = 106) : ArrOfT s (E.2.1 t) (aTyp t) ∧ va_RA s (E.2.1 t) (aTyp t) := by
  rcases ht with rfl | rfl | rfl | rfl | rfl | rfl
  · exact hK.1.2 0 _ rfl
  · exact hK.1.2 1 _ rfl
  · exact hK.1.2 2 _ rfl
  · exact hK.1.2 3 _ rfl
  · exact hK.1.2 4 _ rfl
  · exact hK.1.2 5 _ rfl
theorem vp_in_lt {i : Int32} {n : Nat} (h : vp_in i n) : i.toNatClampNeg < n := Nat.not_le.mp fun q => h (Or.inr q)
theorem arrV_in {cA : ClassId} {n : Nat} {f : Nat → Value} {i : Int32} (h : vp_in i n) : ¬ (i < 0 ∨ (arrV cA n f).slots.size ≤ i.toNatClampNeg) := by rw [arrV_size]; exact h
theorem sn_iald {pc : Nat} {lv : aV} {st : List Value} {h : aM} {o : aO} {r1 r2 r3 : Nat} (hx : p.tables.exec = Jvm.exec) (hb : c.code = cc) (hK : aKS E O s) (hd : decode cc pc = .ok (.iaload, 1)) (hs : aStep .iaload 1 r1 r2 r3 pc lv st h = some o) (k : aG p l e R s m args below meth c Q E O b0 b1 o.1 o.2.1 o.2.2.1 o.2.2.2) : aG p l e R s m args below meth c Q E O b0 b1 pc lv st h := by
  simp only [aStep, aIal] at hs
  split at hs
  · rename_i i a t
    split at hs
    · rename_i hc
      cases hs
      obtain ⟨sh, h1, h2, h3⟩ := aArr_inv hc
      have h2 : sh.1 = 100 := by omega
      intro ls H locs hL hA hS
      by_cases ha : a < aK
      · have hT := hK.2.2.2.1 a _ ha (aOld_at hA ha h1) (by omega)
        rw [h2] at hT
        exact va_ti hx hb hT hS h3 (v := .int (h.2.2.1 a i.toNatClampNeg)) (by rw [((hA.2.2.1 a ha).2 _).1]) hd (k ls H locs hL hA hS)
      · have hc2 := (hA.2.2.2.1 a _ (Nat.le_of_not_lt ha) h1).2 (by omega)
        rw [h2] at hc2
        refine W.iald hx hb hc2 ((aArrOf hK (Or.inl rfl)).1 _ _) (fun q => by cases q) (arrV_in h3) (v := .int (h.2.2.1 a i.toNatClampNeg)) ?_ rfl rfl hd (k ls H locs hL hA hS)
        rw [arrV_read _ _ (vp_in_lt h3)]
        simp [aCv, aKd, h2, aRd, aTv]
    · cases hs
  · cases hs
theorem sn_bald {pc : Nat} {lv : aV} {st : List Value} {h : aM} {o : aO} {r1 r2 r3 : Nat} (hx : p.tables.exec = Jvm.exec) (hb : c.code = cc) (hK : aKS E O s) (hd : decode cc pc = .ok (.baload, 1)) (hs : aStep .baload 1 r1 r2 r3 pc lv st h = some o) (k : aG p l e R s m args below meth c Q E O b0 b1 o.1 o.2.1 o.2.2.1 o.2.2.2) : aG p l e R s m args below meth c Q E O b0 b1 pc lv st h := by
  simp only [aStep, aIal] at hs
  split at hs
  · rename_i i a t
    split at hs
    · rename_i hc
      cases hs
      obtain ⟨sh, h1, h2, h3⟩ := aArr_inv hc
      intro ls H locs hL hA hS
      by_cases ha : a < aK
      · have hT := hK.2.2.2.1 a _ ha (aOld_at hA ha h1) (by omega)
        have h103 : sh.1 = 103 := by
          have := (hK.2.2.1 a _ ha (aOld_at hA ha h1)).1
          omega
        rw [h103] at hT
        exact va_tb hx hb hT hS h3 (v := .int (h.2.2.1 a i.toNatClampNeg)) (by rw [((hA.2.2.1 a ha).2 _).1]) hd (k ls H locs hL hA hS)
      · have h102 : sh.1 = 102 := h2.resolve_right (hA.2.2.2.2 a sh (Nat.le_of_not_lt ha) h1)
        have hc2 := (hA.2.2.2.1 a _ (Nat.le_of_not_lt ha) h1).2 (by omega)
        rw [h102] at hc2
        refine W.zald hx hb hc2 ((aArrOf hK (Or.inr (Or.inr (Or.inl rfl)))).1 _ _) (fun q => by cases q) (arrV_in h3) (v := .int (h.2.2.1 a i.toNatClampNeg)) ?_ rfl rfl hd (k ls H locs hL hA hS)
        rw [arrV_read _ _ (vp_in_lt h3)]
        simp [aCv, aKd, h102, aRd, aTv]
    · cases hs
  · cases hs
theorem sn_lald {pc : Nat} {lv : aV} {st : List Value} {h : aM} {o : aO} {r1 r2 r3 : Nat} (hx : p.tables.exec = Jvm.exec) (hb : c.code = cc) (hK : aKS E O s) (hd : decode cc pc = .ok (.laload, 1)) (hs : aStep .laload 1 r1 r2 r3 pc lv st h = some o) (k : aG p l e R s m args below meth c Q E O b0 b1 o.1 o.2.1 o.2.2.1 o.2.2.2) : aG p l e R s m args below meth c Q E O b0 b1 pc lv st h := by
  simp only [aStep, aLal] at hs
  split at hs
  · rename_i i a t
    split at hs
    · rename_i hc
      cases hs
      obtain ⟨sh, h1, h2, h3⟩ := aArr_inv hc.1
      have h2 : sh.1 = 101 := by omega
      intro ls H locs hL hA hS
      have hc2 := (hA.2.2.2.1 a _ hc.2 h1).2 (by omega)
      rw [h2] at hc2
      refine W.lald hx hb hc2 ((aArrOf hK (Or.inr (Or.inl rfl))).1 _ _) (fun q => by cases q) (arrV_in h3) (v := .long (h.2.2.2.1 a i.toNatClampNeg)) ?_ rfl rfl hd (k ls H locs hL hA hS)
      rw [arrV_read _ _ (vp_in_lt h3)]
      simp [aCv, aKd, h2, aRd, aTv]
    · cases hs
  · cases hs
theorem aTyp_ref {t : Nat} (h : 104 ≤ t) : (aTyp t).isReference = true := by
  unfold aTyp
  split <;> first | omega | rfl
theorem sn_aald {pc : Nat} {lv : aV} {st : List Value} {h : aM} {o : aO} {r1 r2 r3 : Nat} (hx : p.tables.exec = Jvm.exec) (hb : c.code = cc) (hK : aKS E O s) (hd : decode cc pc = .ok (.aaload, 1)) (hs : aStep .aaload 1 r1 r2 r3 pc lv st h = some o) (k : aG p l e R s m args below meth c Q E O b0 b1 o.1 o.2.1 o.2.2.1 o.2.2.2) : aG p l e R s m args below meth c Q E O b0 b1 pc lv st h := by
  simp only [aStep, aAal] at hs
  split at hs
  · rename_i i a t
    split at hs
    · rename_i hc
      cases hs
      obtain ⟨sh, h1, h2, h3⟩ := aArr_inv hc.1
      have h2 : sh.1 = r1 := by omega
      have hr := hc.2.2
      intro ls H locs hL hA hS
      have hc2 := (hA.2.2.2.1 a _ hc.2.1 h1).2 (by omega)
      rw [h2] at hc2
      refine W.aald (ty := aTyp r1) hx hb hc2 ((aArrOf hK (by omega)).1 _ _) (aTyp_ref hr.1) (fun q => by cases q) (arrV_in h3) (v := aTv E (aRf (h.2.2.2.2 a i.toNatClampNeg))) ?_ rfl rfl hd (k ls H locs hL hA hS)
      rw [arrV_read _ _ (vp_in_lt h3)]
      simp [aCv, aKd, h2, show ¬ r1 < 100 by omega, show ¬ r1 = 101 by omega, show ¬ r1 < 104 by omega, aRd]
    · cases hs
  · cases hs
theorem sn_len {pc : Nat} {lv : aV} {st : List Value} {h : aM} {o : aO} {r1 r2 r3 : Nat} (hx : p.tables.exec = Jvm.exec) (hb : c.code = cc) (hK : aKS E O s) (hd : decode cc pc = .ok (.arraylength, 1)) (hs : aStep .arraylength 1 r1 r2 r3 pc lv st h = some o) (k : aG p l e R s m args below meth c Q E O b0 b1 o.1 o.2.1 o.2.2.1 o.2.2.2) : aG p l e R s m args below meth c Q E O b0 b1 pc lv st h := by
  simp only [aStep, aLen] at hs
  split at hs
  · rename_i a t
    split at hs
    · rename_i sh h1
      split at hs
      · rename_i hc
        cases hs
        intro ls H locs hL hA hS
        by_cases ha : a < aK
        · have hT := hK.2.2.2.1 a _ ha (aOld_at hA ha h1) (by omega)
          exact va_tlen hx hb hT hS rfl hd (k ls H locs hL hA hS)
        · have hne := hA.2.2.2.2 a sh (Nat.le_of_not_lt ha) h1
          have hc2 := (hA.2.2.2.1 a _ (Nat.le_of_not_lt ha) h1).2 (by omega)
          refine W.alen (n := nI sh.2) (ty := aTyp sh.1) hx hb hc2 ((aArrOf hK (by omega)).1 _ _) (by rw [arrV_size] <;> rfl) rfl rfl hd (k ls H locs hL hA hS)
      · cases hs
    · cases hs
  · cases hs
theorem sn_iast {pc : Nat} {lv : aV} {st : List Value} {h : aM} {o : aO} {r1 r2 r3 : Nat} (hx : p.tables.exec = Jvm.exec) (hb : c.code = cc) (hK : aKS E O s) (hd : decode cc pc = .ok (.iastore, 1)) (hs : aStep .iastore 1 r1 r2 r3 pc lv st h = some o) (k : aG p l e R s m args below meth c Q E O b0 b1 o.1 o.2.1 o.2.2.1 o.2.2.2) : aG p l e R s m args below meth c Q E O b0 b1 pc lv st h := by
  simp only [aStep, aIas] at hs
  split at hs
  · rename_i x i a t
    split at hs
    · rename_i hc
      cases hs
      obtain ⟨sh, h1, h2, h3⟩ := aArr_inv hc.1
      have h2 : sh.1 = 100 := by omega
      intro ls H locs hL hA hS
      have hc2 := (hA.2.2.2.1 a _ hc.2 h1).2 (by omega)
      rw [h2] at hc2
      refine W.iast hx hb hc2 ((aArrOf hK (Or.inl rfl)).1 _ _) (fun q => by cases q) (arrV_in h3) rfl rfl hd fun H' z1 z2 z3 => ?_
      refine k.go (h := h) rfl rfl hL (hA.wr (k := i.toNatClampNeg) (v := .int x) hc.2 h1 (aWi_1 h a _ x (by simp [aKd, h2])) z2 z3 (fun z => by omega) (fun _ => ?_)) (hS.put z2 z3 (aAd_nw E hc.2))
      rw [z1, arrV_store, h2]
      rfl
    · cases hs
  · cases hs
theorem sn_zast {pc : Nat} {lv : aV} {st : List Value} {h : aM} {o : aO} {r1 r2 r3 : Nat} (hx : p.tables.exec = Jvm.exec) (hb : c.code = cc) (hK : aKS E O s) (hd : decode cc pc = .ok (.bastore, 1)) (hs : aStep .bastore 1 r1 r2 r3 pc lv st h = some o) (k : aG p l e R s m args below meth c Q E O b0 b1 o.1 o.2.1 o.2.2.1 o.2.2.2) : aG p l e R s m args below meth c Q E O b0 b1 pc lv st h := by
  simp only [aStep, aZas] at hs
  split at hs
  · rename_i x i a t
    split at hs
    · rename_i hc
      cases hs
      obtain ⟨sh, h1, h2, h3⟩ := aArr_inv hc.1
      have h2 : sh.1 = 102 := by omega
      intro ls H locs hL hA hS
      have hc2 := (hA.2.2.2.1 a _ hc.2 h1).2 (by omega)
      rw [h2] at hc2
      refine W.zast hx hb hc2 ((aArrOf hK (Or.inr (Or.inr (Or.inl rfl)))).1 _ _) (fun q => by cases q) (arrV_in h3) rfl rfl hd fun H' z1 z2 z3 => ?_
      refine k.go (h := h) rfl rfl hL (hA.wr (k := i.toNatClampNeg) (v := .int (x &&& 1)) hc.2 h1 (aWi_1 h a _ _ (by simp [aKd, h2])) z2 z3 (fun z => by omega) (fun _ => ?_)) (hS.put z2 z3 (aAd_nw E hc.2))
      rw [z1, arrV_store, h2]
      rfl
    · cases hs
  · cases hs
theorem sn_last {pc : Nat} {lv : aV} {st : List Value} {h : aM} {o : aO} {r1 r2 r3 : Nat} (hx : p.tables.exec = Jvm.exec) (hb : c.code = cc) (hK : aKS E O s) (hd : decode cc pc = .ok (.lastore, 1)) (hs : aStep .lastore 1 r1 r2 r3 pc lv st h = some o) (k : aG p l e R s m args below meth c Q E O b0 b1 o.1 o.2.1 o.2.2.1 o.2.2.2) : aG p l e R s m args below meth c Q E O b0 b1 pc lv st h := by
  simp only [aStep, aLas] at hs
  split at hs
  · rename_i x i a t
    split at hs
    · rename_i hc
      cases hs
      obtain ⟨sh, h1, h2, h3⟩ := aArr_inv hc.1
      have h2 : sh.1 = 101 := by omega
      intro ls H locs hL hA hS
      have hc2 := (hA.2.2.2.1 a _ hc.2 h1).2 (by omega)
      rw [h2] at hc2
      refine W.last hx hb hc2 ((aArrOf hK (Or.inr (Or.inl rfl))).1 _ _) (fun q => by cases q) (arrV_in h3) rfl rfl hd fun H' z1 z2 z3 => ?_
      refine k.go (h := h) rfl rfl hL (hA.wr (k := i.toNatClampNeg) (v := .long x) hc.2 h1 (by rw [show aKd sh i.toNatClampNeg = 1 by simp [aKd, h2]]; exact aWl_1 h a _ x) z2 z3 (fun z => by omega) (fun _ => ?_)) (hS.put z2 z3 (aAd_nw E hc.2))
      rw [z1, arrV_store, h2]
      rfl
    · cases hs
  · cases hs
theorem sn_aast {pc : Nat} {lv : aV} {st : List Value} {h : aM} {o : aO} {r1 r2 r3 : Nat} (hx : p.tables.exec = Jvm.exec) (hb : c.code = cc) (hK : aKS E O s) (hd : decode cc pc = .ok (.aastore, 1)) (hv : (r1 = 105 ∧ r2 = 3) ∨ (r1 = 106 ∧ r2 = 7)) (hs : aStep .aastore 1 r1 r2 r3 pc lv st h = some o) (k : aG p l e R s m args below meth c Q E O b0 b1 o.1 o.2.1 o.2.2.1 o.2.2.2) : aG p l e R s m args below meth c Q E O b0 b1 pc lv st h := by
  simp only [aStep, aAas] at hs
  split at hs
  · rename_i x i a t
    split at hs
    · rename_i hc
      cases hs
      obtain ⟨sh, h1, h2, h3⟩ := aArr_inv hc.1
      have h2 : sh.1 = r1 := by omega
      intro ls H locs hL hA hS
      have hc2 := (hA.2.2.2.1 a _ hc.2.1 h1).2 (by omega)
      rw [h2] at hc2
      obtain ⟨r, g0, -, cellV, g1, g2, g3, -⟩ := (hA.2.2.2.1 x _ hc.2.2.1 hc.2.2.2).1 (by simp; omega)
      have hcls := (hK.1.1 r2 r g0).2
      have hra := (aArrOf hK (t := r1) (by omega)).2
      have hnm : aTyp r1 = .object r.1 := by
        rcases hv with ⟨rfl, rfl⟩ | ⟨rfl, rfl⟩ <;> (cases g0; rfl)
      rw [hnm] at hra
      obtain ⟨kA, comp, k1, k2, k3, -⟩ := hra
      have hcomp : comp = E.1.1 r2 := Option.some.inj (k3.symm.trans hcls.1)
      subst hcomp
      obtain ⟨kC, hkC, -⟩ := hcls.2
      refine W.aast hx hb hc2 (fun q h => by cases h) (fun h => by cases h) k1 k2 rfl hkC ⟨fun q => h3 (Or.inl q), by rw [arrV_size]; exact vp_in_lt h3⟩ g1 (fun q h => by rw [g3] at h; cases h) (by rw [g2]; exact hkC) (by rw [g2]; exact va_assign hcls) rfl rfl hd fun H' z1 z2 z3 => ?_
      refine k.go (h := h) rfl rfl hL (hA.wr (k := i.toNatClampNeg) (v := .ref x) hc.2.1 h1 (by rw [show aKd sh i.toNatClampNeg = 2 by simp [aKd, h2, show ¬ r1 < 100 by omega, show ¬ r1 = 101 by omega, show ¬ r1 < 104 by omega]]; exact aWr_1 h a _ (some x)) z2 z3 (fun z => by omega) (fun _ => ?_)) (hS.put z2 z3 (aAd_nw E hc.2.1))
      rw [z1, arrV_store, h2]
      rfl
    · cases hs
  · cases hs
end MEM2
