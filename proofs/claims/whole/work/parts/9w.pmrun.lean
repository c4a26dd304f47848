-- deps: 9v.pmtab
/-! ===== runs of the small table ===== -/
def RnM (d k pc : Nat) (lv : aV) (st : List Value) (h : aM) (v : Option Value) (h' : aM) : Prop := ∃ n, aRun miM cd2 pmN n d k pc lv st h = some (v, h')
section RMS
variable {d k pc : Nat} {lv : aV} {st : List Value} {h h' : aM} {v : Option Value}
theorem RnM.s {ins : Instr} {n r1 r2 r3 pc' : Nat} {lv' : aV} {st' : List Value} {h2 : aM} (hc : cd2 k pc = some (ins, n, r1, r2, r3)) (h1 : aIsRet ins = false) (hcl : aIsCall ins r1 = false) (hp : aIsPm ins r1 = false) (hs : aStep ins n r1 r2 r3 pc lv st h = some (pc', lv', st', h2)) (w : RnM d k pc' lv' st' h2 v h') : RnM d k pc lv st h v h' := by
  obtain ⟨f, hr⟩ := w
  refine ⟨f + 1, ?_⟩
  unfold aRun
  simp only [hc, h1, hcl, hp, Bool.false_eq_true, if_false, hs]
  exact hr
theorem RnM.r {ins : Instr} {n r1 r2 r3 : Nat} {y : MethodName} {b : ByteArray} {mL : Nat} {rt : Option FieldType} (hc : cd2 k pc = some (ins, n, r1, r2, r3)) (h1 : aIsRet ins = true) (hm : miM k = some (y, b, mL, rt)) (hv : aRetV ins rt st = some v) : RnM d k pc lv st h v h := by
  refine ⟨1, ?_⟩
  unfold aRun
  simp only [hc, h1, if_true, hm, hv]
theorem RnM.c {ins : Instr} {n r1 r2 r3 : Nat} {y : MethodName} {b : ByteArray} {mL : Nat} {rt : Option FieldType} {v1 : Option Value} {h1 : aM} (hc : cd2 k pc = some (ins, n, r1, r2, r3)) (e1 : aIsRet ins = false) (e2 : aIsCall ins r1 = true) (hm : miM r1 = some (y, b, mL, rt)) (hok : aCallOk ins r2 r3 mL st h = true) (w1 : RnM d r1 0 (aArg mL (st.take (aNum ins r2)).reverse) [] h v1 h1) (w : RnM (d + 1) k (pc + n) lv (v1.toList ++ st.drop (aNum ins r2)) h1 v h') : RnM (d + 1) k pc lv st h v h' := by
  obtain ⟨f1, hr1⟩ := w1
  obtain ⟨f2, hr⟩ := w
  refine ⟨max f1 f2 + 1, ?_⟩
  unfold aRun
  simp only [hc, e1, e2, hm, if_true, Bool.false_eq_true, if_false, hok]
  rw [aRun_le hr1 (Nat.le_max_left _ _)]
  exact aRun_le hr (Nat.le_max_right _ _)
theorem gt_R {i n c kk a b : Nat} (hs : h.1[a]? = some (c, aNf c)) (hk : kk < aNf c) (hg : gr h a kk = some b) : aStep (.getfield i) n c kk 2 pc lv (.ref a :: st) h = some (pc + n, lv, .ref b :: st, h) := by
  show aGet c kk 2 (pc + n) lv (.ref a :: st) h = _
  unfold aGet
  simp only
  rw [if_pos ⟨hs, hk⟩]
  show some (pc + n, lv, aRf (gr h a kk) :: st, h) = _
  rw [hg]
  rfl
theorem gt_I {i n c kk a : Nat} (hs : h.1[a]? = some (c, aNf c)) (hk : kk < aNf c) : aStep (.getfield i) n c kk 0 pc lv (.ref a :: st) h = some (pc + n, lv, .int (gi h a kk) :: st, h) := by
  show aGet c kk 0 (pc + n) lv (.ref a :: st) h = _
  unfold aGet
  simp only
  rw [if_pos ⟨hs, hk⟩]
  rfl
theorem ld_I {n a m : Nat} {p : Int32} (hs : h.1[a]? = some (100, m)) (h0 : ¬ p < 0) (hm : p.toNatClampNeg < m) : aStep .iaload n 0 0 0 pc lv (.int p :: .ref a :: st) h = some (pc + n, lv, .int (gi h a p.toNatClampNeg) :: st, h) := by
  show aIal 100 100 (pc + n) lv (.int p :: .ref a :: st) h = _
  unfold aIal aArr
  simp only [hs]
  rw [if_pos (by simp [h0, hm])]
  rfl
theorem ld_A {n a m b : Nat} {p : Int32} (hs : h.1[a]? = some (104, m)) (ha : 32 ≤ a) (h0 : ¬ p < 0) (hm : p.toNatClampNeg < m) (hg : gr h a p.toNatClampNeg = some b) : aStep .aaload n 104 0 0 pc lv (.int p :: .ref a :: st) h = some (pc + n, lv, .ref b :: st, h) := by
  show aAal 104 (pc + n) lv (.int p :: .ref a :: st) h = _
  unfold aAal aArr
  simp only [hs]
  rw [if_pos ⟨by simp [h0, hm], ha, by decide, by decide⟩]
  show some (pc + n, lv, aRf (gr h a p.toNatClampNeg) :: st, h) = _
  rw [hg]
  rfl
theorem jz_t {cnd : Jvm.ClassFile.Cond} {off : Int} {n t : Nat} {x : Int32} (ht : aTg pc off = some t) (hc : aC2 cnd x 0 = true) : aStep (.ifCond cnd off) n 0 0 0 pc lv (.int x :: st) h = some (t, lv, st, h) := by
  show aJ pc off n (aC2 cnd x 0 = true) lv st h = _
  unfold aJ
  rw [ht]
  simp only
  rw [if_pos hc]
theorem jz_f {cnd : Jvm.ClassFile.Cond} {off : Int} {n t : Nat} {x : Int32} (ht : aTg pc off = some t) (hc : aC2 cnd x 0 = false) : aStep (.ifCond cnd off) n 0 0 0 pc lv (.int x :: st) h = some (pc + n, lv, st, h) := by
  show aJ pc off n (aC2 cnd x 0 = true) lv st h = _
  unfold aJ
  rw [ht]
  simp only
  rw [if_neg (by rw [hc]; decide)]
theorem jc_t {cnd : Jvm.ClassFile.Cond} {off : Int} {n t : Nat} {x y : Int32} (ht : aTg pc off = some t) (hc : aC2 cnd x y = true) : aStep (.if_icmp cnd off) n 0 0 0 pc lv (.int y :: .int x :: st) h = some (t, lv, st, h) := by
  show aJ pc off n (aC2 cnd x y = true) lv st h = _
  unfold aJ
  rw [ht]
  simp only
  rw [if_pos hc]
theorem jc_f {cnd : Jvm.ClassFile.Cond} {off : Int} {n t : Nat} {x y : Int32} (ht : aTg pc off = some t) (hc : aC2 cnd x y = false) : aStep (.if_icmp cnd off) n 0 0 0 pc lv (.int y :: .int x :: st) h = some (pc + n, lv, st, h) := by
  show aJ pc off n (aC2 cnd x y = true) lv st h = _
  unfold aJ
  rw [ht]
  simp only
  rw [if_neg (by rw [hc]; decide)]
theorem isM_0a {p : Int32} (hp : p < 0) : RnM d 102 0 [some (.ref 32), some (.int p)] [] h (some (.int 0)) h :=
  RnM.s rfl rfl rfl rfl rfl (RnM.s rfl rfl rfl rfl (jz_t (t := 19) rfl (decide_eq_true hp)) (RnM.s rfl rfl rfl rfl rfl (RnM.r rfl rfl rfl rfl)))
theorem isM_0b {p : Int32} (g : aPMg h) (hp : ¬ p < 0) (hq : gi h 58 3 ≤ p) : RnM d 102 0 [some (.ref 32), some (.int p)] [] h (some (.int 0)) h :=
  RnM.s rfl rfl rfl rfl rfl (RnM.s rfl rfl rfl rfl (jz_f (t := 19) rfl (decide_eq_false hp)) (RnM.s rfl rfl rfl rfl rfl (RnM.s rfl rfl rfl rfl rfl (RnM.s rfl rfl rfl rfl (gt_R g.1.1 (by decide) g.1.2.1) (RnM.s rfl rfl rfl rfl (gt_I g.2.1.1 (by decide)) (RnM.s rfl rfl rfl rfl (jc_t (t := 19) rfl (decide_eq_true hq)) (RnM.s rfl rfl rfl rfl rfl (RnM.r rfl rfl rfl rfl))))))))
theorem isM_1 {p : Int32} (g : aPMg h) (hp : ¬ p < 0) (hq : ¬ gi h 58 3 ≤ p) : RnM d 102 0 [some (.ref 32), some (.int p)] [] h (some (.int 1)) h :=
  RnM.s rfl rfl rfl rfl rfl (RnM.s rfl rfl rfl rfl (jz_f (t := 19) rfl (decide_eq_false hp)) (RnM.s rfl rfl rfl rfl rfl (RnM.s rfl rfl rfl rfl rfl (RnM.s rfl rfl rfl rfl (gt_R g.1.1 (by decide) g.1.2.1) (RnM.s rfl rfl rfl rfl (gt_I g.2.1.1 (by decide)) (RnM.s rfl rfl rfl rfl (jc_f (t := 19) rfl (decide_eq_false hq)) (RnM.s rfl rfl rfl rfl rfl (RnM.s rfl rfl rfl rfl rfl (RnM.r rfl rfl rfl rfl)))))))))
theorem cOk_v {i r2 mL : Nat} {as : List Value} {x : Nat} (hl : r2 = as.length) (hm : aSlots (.ref x :: as.reverse) ≤ mL) (hs : h.1[x]? = some (10, aNf 10)) : aCallOk (.invokevirtual i) r2 10 mL (as ++ [.ref x]) h = true := by
  subst hl
  have e1 : (as ++ [Value.ref x]).take (as.length + 1) = as ++ [.ref x] := List.take_of_length_le (by simp)
  have e2 : (as ++ [Value.ref x]).drop (as.length + 1) = [] := List.drop_of_length_le (by simp)
  unfold aCallOk
  simp only [aNum, e1, e2, List.reverse_append, List.reverse_cons, List.reverse_nil, List.nil_append, List.cons_append]
  simp [hm, aRecv, hs]
theorem rv_i {x y : Int32} (e : x = y) : aRetV .ireturn (some .int) [.int x] = some (some (.int y)) := by
  subst e
  exact if_pos rfl
theorem man_n {p q : Int32} (g : aPMg h) (t : ¬ aPMt h p q) : RnM (d + 1) 299 0 [some (.ref 32), some (.int p), some (.int q)] [] h (some (.int (aPMv h p q))) h := by
  have t1 : ¬ p < 0 := fun z => t (Or.inl z)
  have t2 : ¬ gi h 58 3 ≤ p := fun z => t (Or.inr (Or.inl z))
  have t3 : ¬ q < 0 := fun z => t (Or.inr (Or.inr (Or.inl z)))
  have t4 : ¬ 4 < q := fun z => t (Or.inr (Or.inr (Or.inr z)))
  have h6 : p.toNatClampNeg < 6 := by
    obtain ⟨j, hj, rfl⟩ := nI_of t1
    rw [nI_clamp hj]
    have a1 := Int32.lt_iff_toInt_lt.mp (Int32.not_le.mp t2)
    have a2 := g.2.1.2.2
    rw [nI_toInt hj] at a1
    omega
  have tail : RnM (d + 1) 299 27 [some (.ref 32), some (.int p), some (.int q)] [] h (some (.int (aPMv h p q))) h := by
    rcases sw4 q with hd | rfl | rfl | rfl | rfl | rfl
    · exfalso
      rcases hd with hd | hd
      · exact t3 (Int32.lt_iff_toInt_lt.mpr hd)
      · exact t4 (Int32.lt_iff_toInt_lt.mpr hd)
    · exact RnM.s rfl rfl rfl rfl rfl (RnM.s rfl rfl rfl rfl rfl (RnM.s rfl rfl rfl rfl rfl (RnM.s rfl rfl rfl rfl (gt_R g.1.1 (by decide) g.1.2.2) (RnM.s rfl rfl rfl rfl (gt_R g.2.2.1.1 (by decide) g.2.2.1.2.1) (RnM.s rfl rfl rfl rfl rfl (RnM.s rfl rfl rfl rfl (ld_I g.2.2.2.1.1 t1 h6) (RnM.r rfl rfl rfl (rv_i rfl))))))))
    · exact RnM.s rfl rfl rfl rfl rfl (RnM.s rfl rfl rfl rfl rfl (RnM.s rfl rfl rfl rfl rfl (RnM.s rfl rfl rfl rfl (gt_R g.1.1 (by decide) g.1.2.2) (RnM.s rfl rfl rfl rfl (gt_R g.2.2.1.1 (by decide) g.2.2.1.2.2.1) (RnM.s rfl rfl rfl rfl rfl (RnM.s rfl rfl rfl rfl (ld_I g.2.2.2.1.2.1 t1 h6) (RnM.r rfl rfl rfl (rv_i rfl))))))))
    · exact RnM.s rfl rfl rfl rfl rfl (RnM.s rfl rfl rfl rfl rfl (RnM.s rfl rfl rfl rfl rfl (RnM.s rfl rfl rfl rfl (gt_R g.1.1 (by decide) g.1.2.2) (RnM.s rfl rfl rfl rfl (gt_R g.2.2.1.1 (by decide) g.2.2.1.2.2.2.1) (RnM.s rfl rfl rfl rfl rfl (RnM.s rfl rfl rfl rfl (ld_I g.2.2.2.1.2.2.1 t1 h6) (RnM.r rfl rfl rfl (rv_i rfl))))))))
    · have gm := g.2.2.2.2.1.2 _ h6
      exact RnM.s rfl rfl rfl rfl rfl (RnM.s rfl rfl rfl rfl rfl (RnM.s rfl rfl rfl rfl rfl (RnM.s rfl rfl rfl rfl (gt_R g.1.1 (by decide) g.1.2.1) (RnM.s rfl rfl rfl rfl (gt_R g.2.1.1 (by decide) g.2.1.2.1) (RnM.s rfl rfl rfl rfl rfl (RnM.s rfl rfl rfl rfl (ld_A g.2.2.2.2.1.1 (by decide) t1 h6 gm.1) (RnM.s rfl rfl rfl rfl rfl (RnM.s rfl rfl rfl rfl (ld_I (p := 3) gm.2 (by decide) (by decide)) (RnM.r rfl rfl rfl (rv_i rfl))))))))))
    · exact RnM.s rfl rfl rfl rfl rfl (RnM.s rfl rfl rfl rfl rfl (RnM.s rfl rfl rfl rfl rfl (RnM.s rfl rfl rfl rfl (gt_R g.1.1 (by decide) g.1.2.2) (RnM.s rfl rfl rfl rfl (gt_R g.2.2.1.1 (by decide) g.2.2.1.2.2.2.2) (RnM.s rfl rfl rfl rfl rfl (RnM.s rfl rfl rfl rfl (ld_I g.2.2.2.1.2.2.2 t1 h6) (RnM.r rfl rfl rfl (rv_i rfl))))))))
  refine RnM.s rfl rfl rfl rfl rfl (RnM.s rfl rfl rfl rfl rfl (RnM.c (st := [.int p, .ref 32]) (v1 := some (.int 1)) (h1 := h) rfl rfl rfl rfl (cOk_v (as := [.int p]) rfl (Nat.le_of_ble_eq_true rfl) g.1.1) (isM_1 g t1 t2) ?_))
  refine RnM.s rfl rfl rfl rfl (jz_f (t := 17) rfl rfl) (RnM.s rfl rfl rfl rfl rfl (RnM.s rfl rfl rfl rfl (jz_f (t := 17) rfl (decide_eq_false t3)) (RnM.s rfl rfl rfl rfl rfl (RnM.s rfl rfl rfl rfl rfl (RnM.s rfl rfl rfl rfl (jc_t (t := 27) rfl (decide_eq_true (Int32.not_lt.mp t4))) tail)))))
theorem lman_n {p q : Int32} (g : aPMg h) (t : ¬ aPMt h p q) : RnM (d + 2) 300 0 (aArg 5 [.ref 32, .int p, .int q, .ref 429]) [] h (some (.int 0)) (aWl h 429 0 (aPMv h p q).toInt64) := by
  refine RnM.s rfl rfl rfl rfl rfl (RnM.s rfl rfl rfl rfl rfl (RnM.s rfl rfl rfl rfl rfl (RnM.s rfl rfl rfl rfl rfl (RnM.s rfl rfl rfl rfl rfl (RnM.c (d := d + 1) (v1 := some (.int (aPMv h p q))) (h1 := h) rfl rfl rfl rfl ?_ (man_n g t) ?_)))))
  · show aCallOk (.invokevirtual 7) 2 10 3 [.int q, .int p, .ref 32, .int 0, .ref 429] h = true
    have e : aRecv (.invokevirtual 7) 10 [.ref 32, .int p, .int q] h = true := decide_eq_true g.1.1
    unfold aCallOk
    rw [show (List.take (aNum (.invokevirtual 7) 2) [Value.int q, .int p, .ref 32, .int 0, .ref 429]).reverse = [.ref 32, .int p, .int q] from rfl, e]
    rfl
  · refine RnM.s rfl rfl rfl rfl rfl (RnM.s (pc' := 10) (lv' := aArg 5 [.ref 32, .int p, .int q, .ref 429]) (st' := []) (h2 := aWl h 429 0 (aPMv h p q).toInt64) rfl rfl rfl rfl ?_ (RnM.s rfl rfl rfl rfl rfl (RnM.s rfl rfl rfl rfl rfl (RnM.r rfl rfl rfl (rv_i rfl)))))
    show aLas _ _ [.long (aPMv h p q).toInt64, .int 0, .ref 429] h = _
    unfold aLas aArr
    simp only [g.2.2.2.2.2]
    rw [if_pos ⟨rfl, by decide⟩]
    rfl
end RMS
