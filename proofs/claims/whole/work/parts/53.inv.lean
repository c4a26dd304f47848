-- deps: 52.best
/-! ===== what holds between calls ===== -/
def ScrP (a k : Nat) : Prop := (a = 33 ∧ (k = 2 ∨ k = 3)) ∨ (35 ≤ a ∧ a ≤ 57) ∨ (342 ≤ a ∧ a ≤ 357) ∨ (a = 358 ∧ k = 6) ∨ (362 ≤ a ∧ a ≤ 370) ∨ (373 ≤ a ∧ a ≤ 374) ∨ a = 379 ∨ a = 380 ∨ a = 385 ∨ a = 386 ∨ a = 391 ∨ a = 392 ∨ a = 397 ∨ a = 398 ∨
  (a = 399 ∧ (k = 0 ∨ k = 3 ∨ k = 4 ∨ k = 5 ∨ k = 14 ∨ k = 20 ∨ k = 21 ∨ k = 34 ∨ k = 35 ∨ k = 36 ∨ k = 40)) ∨ (408 ≤ a ∧ a ≤ 412) ∨ (418 ≤ a ∧ a ≤ 420) ∨ (425 ≤ a ∧ a ≤ 427) ∨ 429 ≤ a
theorem scr_iff {a k : Nat} : Scr a k = true ↔ ScrP a k := by
  unfold Scr ScrP
  simp only [Bool.or_eq_true, Bool.and_eq_true, beq_iff_eq, Nat.ble_eq]
  omega
/-- the cells of rides as told and of laws -/
def TZ (a k : Nat) : Prop := (58 ≤ a ∧ a ≤ 78) ∨ (413 ≤ a ∧ a ≤ 415) ∨ (a = 399 ∧ (k = 13 ∨ k = 25 ∨ k = 26 ∨ k = 29)) ∨ (a = 32 ∧ (k = 16 ∨ k = 17)) ∨ (375 ≤ a ∧ a ≤ 396 ∧ (a - 375) % 6 < 4) ∨ a = 401 ∨ a = 402 ∨ (404 ≤ a ∧ a ≤ 407)
theorem nS1 {a k : Nat} (h1 : 58 ≤ a) (h2 : a ≤ 341) : ¬ ScrP a k := by
  unfold ScrP
  omega
theorem nS2 {a k : Nat} (h2 : a ≤ 32) : ¬ ScrP a k := by
  unfold ScrP
  omega
theorem nS3 {a k : Nat} (h : (400 ≤ a ∧ a ≤ 407) ∨ (413 ≤ a ∧ a ≤ 417) ∨ (421 ≤ a ∧ a ≤ 424) ∨ a = 428 ∨ a = 34 ∨ a = 371 ∨ (359 ≤ a ∧ a ≤ 361)) : ¬ ScrP a k := by
  unfold ScrP
  omega
theorem nS4 {a k : Nat} (h : TZ a k) : ¬ ScrP a k := by
  unfold TZ at h
  unfold ScrP
  omega
theorem scr_no {a k : Nat} (h : ¬ ScrP a k) : Scr a k = false := by
  rw [Bool.eq_false_iff]
  exact fun q => h (scr_iff.mp q)
/-- two memories are alike but at Z -/
def Ag (Z : Nat → Nat → Prop) (g h : aM) : Prop := OK h ∧ ∀ a k, ¬ Z a k → gi h a k = gi g a k
theorem Ag.refl {Z : Nat → Nat → Prop} {h : aM} (o : OK h) : Ag Z h h := ⟨o, fun _ _ _ => rfl⟩
theorem Ag.trans {Z : Nat → Nat → Prop} {f g h : aM} (a : Ag Z f g) (b : Ag Z g h) : Ag Z f h := ⟨b.1, fun x k q => (b.2 x k q).trans (a.2 x k q)⟩
theorem Ag.mono {Z Y : Nat → Nat → Prop} {g h : aM} (a : Ag Z g h) (m : ∀ a k, Z a k → Y a k) : Ag Y g h := ⟨a.1, fun x k q => a.2 x k (fun z => q (m x k z))⟩
theorem Ag.wi {Z : Nat → Nat → Prop} {g h : aM} {a k : Nat} {x : Int32} (s : Ag Z g h) (z : Z a k) : Ag Z g (aWi h a k x) := ⟨s.1, fun b j q => by
  rw [gi_wi_n, s.2 b j q]
  rintro ⟨rfl, rfl⟩
  exact q z⟩
theorem Ag.rw {Z : Nat → Nat → Prop} {g h : aM} {a : Nat} {f : Nat → Int32} (s : Ag Z g h) (z : ∀ k, Z a k) : Ag Z g (aRw h a f) := ⟨s.1, fun b j q => by
  rw [gi_rw_n, s.2 b j q]
  rintro rfl
  exact q (z j)⟩
theorem Same.ag {g h : aM} (s : Same g h) : Ag ScrP g h := ⟨s.1, fun a k q => s.2 a k (scr_no q)⟩
theorem Ag.same {g h : aM} (s : Ag ScrP g h) : Same g h := ⟨s.1, fun a k q => s.2 a k (fun z => by rw [scr_iff.mpr z] at q; cases q)⟩
theorem Ag.fr {Z : Nat → Nat → Prop} {X : Nat → Nat → Bool} {g h h' : aM} (s : Ag Z g h) (t : Fr X h h') (m : ∀ a k, X a k = true → Z a k) : Ag Z g h' := ⟨t.1, fun a k q => by
  rw [t.2.2.2 a k, s.2 a k q]
  rw [Bool.eq_false_iff]
  exact fun z => q (m a k z)⟩
section I1
variable {g h : aM} {M F L W N : Nat}
theorem ITold.tz (it : ITold g M F L W) (t : ∀ a k, TZ a k → gi h a k = gi g a k) : ITold h M F L W := by
  obtain ⟨hM, hF, hL, hW, t5, t6, t7, t8, t9, t10, t11, t12, t13, t14, t15, t16⟩ := it
  refine ⟨hM, hF, hL, hW, t5, ?_, ?_, ?_, ?_, ?_, ?_, ?_, ?_, fun k hk => ?_, fun k hk => ?_, fun i j hi hj e => ?_⟩
  · rw [t _ _ (by unfold TZ; omega), t6]
  · rw [t _ _ (by unfold TZ; omega), t7]
  · rw [t _ _ (by unfold TZ; omega), t8]
  · rw [t _ _ (by unfold TZ; omega), t9]
  · rw [t _ _ (by unfold TZ; omega), t10]
  · rw [t _ _ (by unfold TZ; omega), t11]
  · rw [t _ _ (by unfold TZ; omega), t12]
  · rw [t _ _ (by unfold TZ; omega), t13]
  · rw [t _ _ (by unfold TZ; omega), t _ _ (by unfold TZ; omega)]
    exact t14 k hk
  · rw [t _ _ (by unfold TZ; omega), t _ _ (by unfold TZ; omega)]
    exact t15 k hk
  · rw [t _ _ (by unfold TZ; omega), t _ _ (by unfold TZ; omega)] at e
    exact t16 i j hi hj e
theorem IFirst.tz (i1 : IFirst g M F) (hM : M ≤ 6) (hF : F ≤ 5) (t : ∀ a k, TZ a k → gi h a k = gi g a k) : IFirst h M F := by
  obtain ⟨a1, a2, a3, a4, a5, a6⟩ := i1
  refine ⟨fun k hk => ?_, fun k hk => ?_, ?_, ?_, fun h0 => ?_, ?_⟩
  · rw [t _ _ (by unfold TZ; omega), t _ _ (by unfold TZ; omega), t _ _ (by unfold TZ; omega), t _ _ (by unfold TZ; omega)]
    exact a1 k hk
  · rw [t _ _ (by unfold TZ; omega), t _ _ (by unfold TZ; omega)]
    exact a2 k hk
  · rw [t _ _ (by unfold TZ; omega), t _ _ (by unfold TZ; omega), a3]
  · rw [t _ _ (by unfold TZ; omega), t _ _ (by unfold TZ; omega), a4]
  · rw [t _ _ (by unfold TZ; omega)]
    exact a5 h0
  · rw [t _ _ (by unfold TZ; omega)]
    exact a6
theorem LwR.tz {i : Nat} (l : LwR g i) (hi : i < 4) (t : ∀ a k, TZ a k → gi h a k = gi g a k) : LwR h i := by
  obtain ⟨s, c, l1, l2, l3, l4, l5, l6, l7⟩ := l
  have e1 : ∀ p, segC h i p = segC g i p := fun p => funext fun q => t _ _ (by unfold TZ; omega)
  refine ⟨s, c, l1, l2, ?_, ?_, ?_, fun p hp => ?_, fun q hq => ?_⟩
  · rw [t _ _ (by unfold TZ; omega), l3]
  · rw [t _ _ (by unfold TZ; omega), l4]
  · rw [t _ _ (by unfold TZ; omega), l5]
  · rw [t (376 + 6 * i) _ (by unfold TZ; omega), t 401 _ (by unfold TZ; omega), t 402 _ (by unfold TZ; omega)]
    exact l6 p hp
  · obtain ⟨a, b, e, q1, q2, q3, q4, q5, q6, q7, q8, q9, q10, q11⟩ := l7 q hq
    refine ⟨a, b, e, q1, q2, q3, ?_, ?_, ?_, ?_, ?_, ?_, ?_, ?_⟩
    · rw [t _ _ (by unfold TZ; omega), q4]
    · rw [t _ _ (by unfold TZ; omega), q5]
    · rw [t _ _ (by unfold TZ; omega), q6]
    · rw [t _ _ (by unfold TZ; omega), q7]
    · rw [t _ _ (by unfold TZ; omega), q8]
    · rw [t _ _ (by unfold TZ; omega)]
      exact q9
    · rw [e1]
      exact q10
    · rw [e1]
      exact q11
theorem ILaw.tz (il : ILaw g N) (t : ∀ a k, TZ a k → gi h a k = gi g a k) : ILaw h N := by
  obtain ⟨l1, l2, l3, l4, l5, l6⟩ := il
  refine ⟨l1, ?_, ?_, fun i hi => (l4 i hi).tz (by omega) t, ?_, ?_⟩
  · rw [t _ _ (by unfold TZ; omega), l2]
  · rw [t _ _ (by unfold TZ; omega), l3]
  · rw [t _ _ (by unfold TZ; omega), t _ _ (by unfold TZ; omega), l5]
  · rw [t _ _ (by unfold TZ; omega)]
    exact l6
theorem hdG_tz {st vo dp : Nat → Int32} {P : Nat} {mud : Int32} (t : ∀ a k, TZ a k → gi h a k = gi g a k) : hdG h F st vo dp P mud = hdG g F st vo dp P mud := by
  have e1 : plG h = plG g := funext fun f => t _ _ (by unfold TZ; omega)
  have e2 : rkG h = rkG g := funext fun f => t _ _ (by unfold TZ; omega)
  have e3 : gi h 399 29 = gi g 399 29 := t _ _ (by unfold TZ; omega)
  funext m s
  unfold hdG wfG
  rw [e1, e2, e3, wfL_same (g := g) (h := h) (fun k => t _ _ (by unfold TZ; omega)) (fun k => t _ _ (by unfold TZ; omega)) (fun k => t _ _ (by unfold TZ; omega)) (fun k => t _ _ (by unfold TZ; omega)) (fun k => t _ _ (by unfold TZ; omega)) (fun k => t _ _ (by unfold TZ; omega))]
/-- a state of the class -/
def StC (h : aM) (M F S : Nat) (s : Nat → Int32) : Prop := (∀ k, k < M → gi h (S + 1) k = s k ∧ gi h (S + 2) k = s (6 + k) ∧ gi h (S + 3) k = s (12 + k) ∧ gi h (S + 4) k = s (18 + k)) ∧ (∀ f, f < F → gi h (S + 5) f = s (24 + f)) ∧
  gi h S 5 = s 29 ∧ gi h S 6 = s 30 ∧ gi h S 7 = s 31 ∧ gi h S 8 = s 32
/-- a state of the reference, with its log -/
def StM (h : aM) (lg : Nat → Nat → Int32) (a o : Nat) (s : Nat → Int32) (D : Nat) : Prop := (∀ k, k < 33 → gi h a (o + k) = s k) ∧ gi h a (o + 33) = nI (min 60 D) ∧ ∀ e, e < D → D ≤ e + 60 → ∀ w, w < 3 → gi h a (o + (34 + 3 * (e - (D - 60)) + w)) = lg e w
/-- its numbers are in their bounds -/
def SB (M : Nat) (s : Nat → Int32) (D : Nat) : Prop := (∀ k, k < M → sm (s k) ∧ sm (s (6 + k)) ∧ (0 ≤ (s (12 + k)).toInt ∧ (s (12 + k)).toInt ≤ 9) ∧ 0 ≤ (s (18 + k)).toInt ∧ (s (18 + k)).toInt ≤ 9999) ∧
  (0 < M → ∃ p, 1 ≤ p ∧ p ≤ 5 ∧ s 29 = nI p) ∧ sm (s 30) ∧ s 32 = nI D ∧ D ≤ 999
def DiR (h : aM) (lg : Nat → Nat → Int32) (A D E : Nat) : Prop := ∀ e, e < D → E ≤ e + 60 → ∀ w, w < 3 → gi h (A + w) (e % 100) = lg e w
/-- acts of the class, of the reference, and their days -/
def KC (h : aM) (M F c nx : Nat) (ks : Nat → Nat → Int32) : Prop := gi h 89 1 = nI nx ∧ gi h 89 2 = nI c ∧ ∀ i, i < c → StC h M F (91 + 6 * ((nx + 40 - c + i) % 40)) (ks i)
def KM (h : aM) (lg : Nat → Nat → Int32) (c : Nat) (ks : Nat → Nat → Int32) (Dk : Nat → Nat) : Prop := gi h 399 38 = nI c ∧ ∀ i, i < c → StM h lg 421 (214 * i) (ks i) (Dk i)
def KB (M c nx D : Nat) (ks : Nat → Nat → Int32) (Dk : Nat → Nat) : Prop := c ≤ 40 ∧ nx < 40 ∧ (∀ i, i < c → SB M (ks i) (Dk i)) ∧ Dk c = D ∧ ∀ i, i < c → Dk i ≤ Dk (i + 1) ∧ Dk (i + 1) ≤ Dk i + 1
def IImg (h : aM) (M F : Nat) : Prop := gi h 32 15 = gi h 399 49 ∧ (gi h 399 49 = 0 ∨ gi h 399 49 = 1 ∧ ∃ s D lg, StC h M F 331 s ∧ StM h lg 428 0 s D ∧ SB M s D ∧ DiR h lg 338 D D)
def ITape (h : aM) (T : Nat) : Prop := T ≤ 240 ∧ gi h 33 1 = nI T ∧ gi h 399 2 = nI T ∧ ∀ i, i < T → gi h 34 i = gi h 400 i ∧ ∃ b, 1 ≤ b ∧ b ≤ 255 ∧ gi h 400 i = nI b
def cnI (a j : Nat) : Int32 := (([[], [20, 2, 8, 2, 30], [5, 1, 1, 0, 0], [30, 5, 20, 9, 99], [5, 5, 3, 1], [0, 0, 0, 0], [30, 9, 9, 9], [10, 3], [0, 0], [30, 9], [], [], [], [], [108, 112, 119, 109, 99], [120, 118, 101, 114], [120, 100], [118, 100, 112, 109, 114, 110]] : List (List Int32)).getD a []).getD j 0
def ICon (h : aM) : Prop := ∀ a j, 0 < a → a < 18 → gi h a j = cnI a j
def IMis (h : aM) : Prop := (∀ k, k < 5 → gi h 371 k = gi h 417 k) ∧ gi h 32 18 = gi h 399 30
/-- all that is so between calls, by what it is so of -/
def InvA (h : aM) (M F L W N D c nx n T : Nat) (s : Nat → Int32) (lg : Nat → Nat → Int32) (ks : Nat → Nat → Int32) (Dk : Nat → Nat) : Prop := OK h ∧ ITold h M F L W ∧ IFirst h M F ∧ ILaw h N ∧ (StC h M F 79 s ∧ KC h M F c nx ks ∧ DiR h lg 86 D (Dk 0)) ∧ (StM h lg 416 0 s D ∧ KM h lg c ks Dk) ∧ SB M s D ∧ KB M c nx D ks Dk ∧ IImg h M F ∧ ISee h n ∧ ITape h T ∧ ICon h ∧ IMis h
def Inv (h : aM) : Prop := ∃ M F L W N D c nx n T s lg ks Dk, InvA h M F L W N D c nx n T s lg ks Dk
end I1
section I2
variable {g h : aM} {M F L W N D c nx n T : Nat} {s : Nat → Int32} {lg ks : Nat → Nat → Int32} {Dk : Nat → Nat}
theorem StC.eq {S : Nat} (st : StC g M F S s) (t : ∀ b k, b < 6 → gi h (S + b) k = gi g (S + b) k) : StC h M F S s := by
  obtain ⟨s1, s2, s3, s4, s5, s6⟩ := st
  refine ⟨fun k hk => ?_, fun f hf => ?_, ?_, ?_, ?_, ?_⟩
  · rw [t 1 k (by omega), t 2 k (by omega), t 3 k (by omega), t 4 k (by omega)]
    exact s1 k hk
  · rw [t 5 f (by omega)]
    exact s2 f hf
  · rw [show gi h S 5 = gi g S 5 from t 0 5 (by omega), s3]
  · rw [show gi h S 6 = gi g S 6 from t 0 6 (by omega), s4]
  · rw [show gi h S 7 = gi g S 7 from t 0 7 (by omega), s5]
  · rw [show gi h S 8 = gi g S 8 from t 0 8 (by omega), s6]
theorem StM.eq {a o : Nat} (st : StM g lg a o s D) (t : ∀ k, k < 214 → gi h a (o + k) = gi g a (o + k)) : StM h lg a o s D := by
  obtain ⟨s1, s2, s3⟩ := st
  refine ⟨fun k hk => ?_, ?_, fun e h1 h2 w hw => ?_⟩
  · rw [t k (by omega), s1 k hk]
  · rw [t 33 (by omega), s2]
  · rw [t _ (by omega), s3 e h1 h2 w hw]
theorem DiR.eq {A E : Nat} (di : DiR g lg A D E) (t : ∀ w k, w < 3 → gi h (A + w) k = gi g (A + w) k) : DiR h lg A D E := fun e h1 h2 w hw => by
  rw [t w _ hw, di e h1 h2 w hw]
theorem KC.eq (kc : KC g M F c nx ks) (t : ∀ a k, 89 ≤ a → a ≤ 330 → gi h a k = gi g a k) : KC h M F c nx ks := by
  obtain ⟨k1, k2, k3⟩ := kc
  refine ⟨?_, ?_, fun i hi => (k3 i hi).eq (fun b k hb => t _ _ (by omega) (by omega))⟩
  · rw [t _ _ (by omega) (by omega), k1]
  · rw [t _ _ (by omega) (by omega), k2]
theorem KM.eq (km : KM g lg c ks Dk) (e : gi h 399 38 = gi g 399 38) (t : ∀ k, gi h 421 k = gi g 421 k) : KM h lg c ks Dk := ⟨by rw [e, km.1], fun i hi => (km.2 i hi).eq (fun k _ => t _)⟩
theorem IImg.eq (im : IImg g M F) (e1 : gi h 32 15 = gi g 32 15) (e2 : gi h 399 49 = gi g 399 49) (t : ∀ a k, 331 ≤ a → a ≤ 340 → gi h a k = gi g a k) (u : ∀ k, gi h 428 k = gi g 428 k) : IImg h M F := by
  refine ⟨by rw [e1, e2, im.1], ?_⟩
  rw [e2]
  rcases im.2 with q | ⟨q, s, D, lg, q1, q2, q3, q4⟩
  · exact Or.inl q
  · exact Or.inr ⟨q, s, D, lg, q1.eq (fun b k hb => t _ _ (by omega) (by omega)), q2.eq (fun k _ => u _), q3, q4.eq (fun w k hw => t _ _ (by omega) (by omega))⟩
theorem ISee.eq (is : ISee g n) (e1 : gi h 358 3 = gi g 358 3) (e2 : gi h 399 44 = gi g 399 44) (t : ∀ a k, 359 ≤ a → a ≤ 361 → gi h a k = gi g a k) (u : ∀ a k, 422 ≤ a → a ≤ 424 → gi h a k = gi g a k) : ISee h n := by
  obtain ⟨i1, i2, i3, i4⟩ := is
  refine ⟨i1, by rw [e1, i2], by rw [e2, i3], fun k hk => ?_⟩
  rw [t 359 k (by omega) (by omega), t 360 k (by omega) (by omega), t 361 k (by omega) (by omega), u 422 k (by omega) (by omega), u 423 k (by omega) (by omega), u 424 k (by omega) (by omega)]
  exact i4 k hk
theorem ITape.eq (it : ITape g T) (e1 : gi h 33 1 = gi g 33 1) (e2 : gi h 399 2 = gi g 399 2) (t : ∀ k, gi h 34 k = gi g 34 k) (u : ∀ k, gi h 400 k = gi g 400 k) : ITape h T := by
  obtain ⟨i1, i2, i3, i4⟩ := it
  refine ⟨i1, by rw [e1, i2], by rw [e2, i3], fun k hk => ?_⟩
  rw [t, u]
  exact i4 k hk
theorem InvA.same (i : InvA g M F L W N D c nx n T s lg ks Dk) (sa : Same g h) : InvA h M F L W N D c nx n T s lg ks Dk := by
  obtain ⟨i1, i2, i3, i4, ⟨i5, i6, i7⟩, ⟨i8, i9⟩, i10, i11, i12, i13, i14, i15, i16⟩ := i
  have t : ∀ a k, ¬ ScrP a k → gi h a k = gi g a k := sa.ag.2
  have tz : ∀ a k, TZ a k → gi h a k = gi g a k := fun a k q => t a k (nS4 q)
  refine ⟨sa.1, i2.tz tz, i3.tz i2.1 i2.2.1 tz, i4.tz tz, ⟨i5.eq (fun b k hb => t _ _ (nS1 (by omega) (by omega))), i6.eq (fun a k h1 h2 => t _ _ (nS1 (by omega) (by omega))), i7.eq (fun w k hw => t _ _ (nS1 (by omega) (by omega)))⟩, ⟨i8.eq (fun k _ => t _ _ (nS3 (by omega))), i9.eq (t _ _ (by unfold ScrP; omega)) (fun k => t _ _ (nS3 (by omega)))⟩, i10, i11, i12.eq (t _ _ (nS2 (by omega))) (t _ _ (by unfold ScrP; omega)) (fun a k h1 h2 => t _ _ (nS1 (by omega) (by omega))) (fun k => t _ _ (nS3 (by omega))), i13.eq (t _ _ (by unfold ScrP; omega)) (t _ _ (by unfold ScrP; omega)) (fun a k h1 h2 => t _ _ (nS3 (by omega))) (fun a k h1 h2 => t _ _ (nS3 (by omega))), i14.eq (t _ _ (by unfold ScrP; omega)) (t _ _ (by unfold ScrP; omega)) (fun k => t _ _ (nS3 (by omega))) (fun k => t _ _ (nS3 (by omega))), fun a j h1 h2 => ?_, ?_, ?_⟩
  · rw [t _ _ (nS2 (by omega))]
    exact i15 a j h1 h2
  · intro k hk
    rw [t 371 k (nS3 (by omega)), t 417 k (nS3 (by omega))]
    exact i16.1 k hk
  · rw [t 32 18 (nS2 (by omega)), t 399 30 (by unfold ScrP; omega)]
    exact i16.2
theorem Inv.same (i : Inv g) (sa : Same g h) : Inv h := by
  obtain ⟨M, F, L, W, N, D, c, nx, n, T, s, lg, ks, Dk, i⟩ := i
  exact ⟨M, F, L, W, N, D, c, nx, n, T, s, lg, ks, Dk, i.same sa⟩
theorem InvA.cb (i : InvA g M F L W N D c nx n T s lg ks Dk) : CtxB g M F L W N D := by
  obtain ⟨i1, i2, i3, i4, ⟨i5, i6, i7⟩, ⟨i8, i9⟩, i10, i11, i12, i13, i14, i15, i16⟩ := i
  have hM := i2.1
  have hF := i2.2.1
  obtain ⟨m1, m2, m3⟩ := i8
  simp only [Nat.zero_add] at m1 m2
  refine ⟨i1, i2, i3, i4, ⟨fun k hk => ?_, fun f hf => ?_, ?_, ?_, ?_, ?_⟩, ⟨fun k hk => ?_, fun h0 => ?_, ?_, ?_, i10.2.2.2.2, ?_⟩⟩
  · simp only [Nat.zero_add]
    rw [m1 k (by omega), m1 (6 + k) (by omega), m1 (12 + k) (by omega), m1 (18 + k) (by omega)]
    exact i5.1 k hk
  · rw [Nat.zero_add, m1 _ (by omega)]
    exact i5.2.1 f hf
  · rw [Nat.zero_add, m1 29 (by omega)]
    exact i5.2.2.1
  · rw [Nat.zero_add, m1 30 (by omega)]
    exact i5.2.2.2.1
  · rw [Nat.zero_add, m1 31 (by omega)]
    exact i5.2.2.2.2.1
  · rw [Nat.zero_add, m1 32 (by omega)]
    exact i5.2.2.2.2.2
  · simp only [Nat.zero_add]
    rw [m1 k (by omega), m1 (6 + k) (by omega), m1 (12 + k) (by omega), m1 (18 + k) (by omega)]
    exact i10.1 k hk
  · rw [Nat.zero_add, m1 29 (by omega)]
    exact i10.2.1 h0
  · rw [Nat.zero_add, m1 30 (by omega)]
    exact i10.2.2.1
  · rw [Nat.zero_add, m1 32 (by omega)]
    exact i10.2.2.2.1
  · rw [Nat.zero_add]
    exact m2
/-- a call: class first, then reference; both answer alike, and all stays so -/
def Act (kc km : Nat) (ac am : aV) : Prop := ∀ g d, Inv g → AW (d + 24) kc 0 ac [] g (fun v h1 => ∃ X, v = some (.int X) ∧ AW (d + 24) km 0 am [] h1 (fun v' h2 => v' = some (.int X) ∧ Inv h2))
theorem act_q {kc km : Nat} {ac am : aV} (q : ∀ g M F L W N D c nx n T s lg ks Dk, InvA g M F L W N D c nx n T s lg ks Dk → Qry g kc km ac am) : Act kc km ac am := by
  intro g d i
  obtain ⟨M, F, L, W, N, D, c, nx, n, T, s, lg, ks, Dk, i⟩ := i
  obtain ⟨X, hX⟩ := q _ _ _ _ _ _ _ _ _ _ _ _ _ _ _ i
  have := (hX d g (Same.refl i.1)).1
  refine AW.mono this (fun v h1 hv => ⟨X, hv.1, ?_⟩)
  have := (hX d h1 hv.2).2
  refine AW.mono this (fun v h2 hv2 => ⟨hv2.1, ?_⟩)
  exact ⟨M, F, L, W, N, D, c, nx, n, T, s, lg, ks, Dk, i.same hv2.2⟩
end I2
