-- deps: 54.keep
/-! ===== acts ===== -/
section O1
variable {d : Nat} {g h : aM} {Q : Option Value → aM → Prop} {M F L W N D c nx n T : Nat} {s : Nat → Int32} {lg ks : Nat → Nat → Int32} {Dk : Nat → Nat}
theorem StC.w1 {m : Nat} {x : Int32} (st : StC h M F 79 s) (hM : M ≤ 6) (hm : m < M) : StC (aWi h 80 m x) M F 79 (up s m x) := by
  obtain ⟨s1, s2, s3, s4, s5, s6⟩ := st
  refine ⟨fun k hk => ⟨?_, ?_, ?_, ?_⟩, fun f hf => ?_, ?_, ?_, ?_, ?_⟩
  · by_cases e : k = m
    · subst e
      rw [up_e]
      exact gi_wi_e
    · rw [up_n _ _ e, gi_wi_n (by omega)]
      exact (s1 k hk).1
  · rw [up_n _ _ (by omega), gi_wi_n (by omega)]
    exact (s1 k hk).2.1
  · rw [up_n _ _ (by omega), gi_wi_n (by omega)]
    exact (s1 k hk).2.2.1
  · rw [up_n _ _ (by omega), gi_wi_n (by omega)]
    exact (s1 k hk).2.2.2
  · rw [up_n _ _ (by omega), gi_wi_n (by omega)]
    exact s2 f hf
  all_goals rw [up_n _ _ (by omega), gi_wi_n (by omega)]
  all_goals assumption
theorem StC.w2 {m : Nat} {x : Int32} (st : StC h M F 79 s) (hM : M ≤ 6) (hm : m < M) : StC (aWi h 81 m x) M F 79 (up s (6 + m) x) := by
  obtain ⟨s1, s2, s3, s4, s5, s6⟩ := st
  refine ⟨fun k hk => ⟨?_, ?_, ?_, ?_⟩, fun f hf => ?_, ?_, ?_, ?_, ?_⟩
  · rw [up_n _ _ (by omega), gi_wi_n (by omega)]
    exact (s1 k hk).1
  · by_cases e : k = m
    · subst e
      rw [up_e]
      exact gi_wi_e
    · rw [up_n _ _ (by omega), gi_wi_n (by omega)]
      exact (s1 k hk).2.1
  · rw [up_n _ _ (by omega), gi_wi_n (by omega)]
    exact (s1 k hk).2.2.1
  · rw [up_n _ _ (by omega), gi_wi_n (by omega)]
    exact (s1 k hk).2.2.2
  · rw [up_n _ _ (by omega), gi_wi_n (by omega)]
    exact s2 f hf
  all_goals rw [up_n _ _ (by omega), gi_wi_n (by omega)]
  all_goals assumption
theorem StC.w3 {m : Nat} {x : Int32} (st : StC h M F 79 s) (hM : M ≤ 6) (hm : m < M) : StC (aWi h 82 m x) M F 79 (up s (12 + m) x) := by
  obtain ⟨s1, s2, s3, s4, s5, s6⟩ := st
  refine ⟨fun k hk => ⟨?_, ?_, ?_, ?_⟩, fun f hf => ?_, ?_, ?_, ?_, ?_⟩
  · rw [up_n _ _ (by omega), gi_wi_n (by omega)]
    exact (s1 k hk).1
  · rw [up_n _ _ (by omega), gi_wi_n (by omega)]
    exact (s1 k hk).2.1
  · by_cases e : k = m
    · subst e
      rw [up_e]
      exact gi_wi_e
    · rw [up_n _ _ (by omega), gi_wi_n (by omega)]
      exact (s1 k hk).2.2.1
  · rw [up_n _ _ (by omega), gi_wi_n (by omega)]
    exact (s1 k hk).2.2.2
  · rw [up_n _ _ (by omega), gi_wi_n (by omega)]
    exact s2 f hf
  all_goals rw [up_n _ _ (by omega), gi_wi_n (by omega)]
  all_goals assumption
theorem StC.w4 {m : Nat} {x : Int32} (st : StC h M F 79 s) (hM : M ≤ 6) (hm : m < M) : StC (aWi h 83 m x) M F 79 (up s (18 + m) x) := by
  obtain ⟨s1, s2, s3, s4, s5, s6⟩ := st
  refine ⟨fun k hk => ⟨?_, ?_, ?_, ?_⟩, fun f hf => ?_, ?_, ?_, ?_, ?_⟩
  · rw [up_n _ _ (by omega), gi_wi_n (by omega)]
    exact (s1 k hk).1
  · rw [up_n _ _ (by omega), gi_wi_n (by omega)]
    exact (s1 k hk).2.1
  · rw [up_n _ _ (by omega), gi_wi_n (by omega)]
    exact (s1 k hk).2.2.1
  · by_cases e : k = m
    · subst e
      rw [up_e]
      exact gi_wi_e
    · rw [up_n _ _ (by omega), gi_wi_n (by omega)]
      exact (s1 k hk).2.2.2
  · rw [up_n _ _ (by omega), gi_wi_n (by omega)]
    exact s2 f hf
  all_goals rw [up_n _ _ (by omega), gi_wi_n (by omega)]
  all_goals assumption
theorem StC.w5 {m : Nat} {x : Int32} (st : StC h M F 79 s) (hM : M ≤ 6) (hF : F ≤ 5) (hm : m < F) : StC (aWi h 84 m x) M F 79 (up s (24 + m) x) := by
  obtain ⟨s1, s2, s3, s4, s5, s6⟩ := st
  refine ⟨fun k hk => ⟨?_, ?_, ?_, ?_⟩, fun f hf => ?_, ?_, ?_, ?_, ?_⟩
  · rw [up_n _ _ (by omega), gi_wi_n (by omega)]
    exact (s1 k hk).1
  · rw [up_n _ _ (by omega), gi_wi_n (by omega)]
    exact (s1 k hk).2.1
  · rw [up_n _ _ (by omega), gi_wi_n (by omega)]
    exact (s1 k hk).2.2.1
  · rw [up_n _ _ (by omega), gi_wi_n (by omega)]
    exact (s1 k hk).2.2.2
  · by_cases e : f = m
    · subst e
      rw [up_e]
      exact gi_wi_e
    · rw [up_n _ _ (by omega), gi_wi_n (by omega)]
      exact s2 f hf
  all_goals rw [up_n _ _ (by omega), gi_wi_n (by omega)]
  all_goals assumption
theorem StC.w0 {j : Nat} {x : Int32} (st : StC h M F 79 s) (hM : M ≤ 6) (hF : F ≤ 5) (h1 : 5 ≤ j) (h2 : j ≤ 8) : StC (aWi h 79 j x) M F 79 (up s (24 + j) x) := by
  obtain ⟨s1, s2, s3, s4, s5, s6⟩ := st
  have q : ∀ i, 5 ≤ i → i ≤ 8 → gi h 79 i = s (24 + i) → gi (aWi h 79 j x) 79 i = up s (24 + j) x (24 + i) := by
    intro i i1 i2 e
    by_cases hij : i = j
    · subst hij
      rw [up_e, gi_wi_e]
    · rw [up_n _ _ (by omega), gi_wi_n (by omega), e]
  refine ⟨fun k hk => ?_, fun f hf => ?_, q 5 (by omega) (by omega) s3, q 6 (by omega) (by omega) s4, q 7 (by omega) (by omega) s5, q 8 (by omega) (by omega) s6⟩
  · rw [up_n _ _ (by omega), up_n _ _ (by omega), up_n _ _ (by omega), up_n _ _ (by omega), gi_wi_n (by omega), gi_wi_n (by omega), gi_wi_n (by omega), gi_wi_n (by omega)]
    exact s1 k hk
  · rw [up_n _ _ (by omega), gi_wi_n (by omega)]
    exact s2 f hf
theorem StM.w {k : Nat} {x : Int32} (st : StM h lg 416 0 s D) (hk : k < 33) : StM (aWi h 416 k x) lg 416 0 (up s k x) D := by
  obtain ⟨s1, s2, s3⟩ := st
  refine ⟨fun j hj => ?_, ?_, fun e h1 h2 w hw => ?_⟩
  · rw [Nat.zero_add]
    by_cases e : j = k
    · subst e
      rw [up_e, gi_wi_e]
    · rw [up_n _ _ e, gi_wi_n (by omega)]
      have := s1 j hj
      rw [Nat.zero_add] at this
      exact this
  · rw [gi_wi_n (by omega), s2]
  · rw [gi_wi_n (by omega), s3 e h1 h2 w hw]
theorem SB.u1 {m : Nat} {x : Int32} (sb : SB M s D) (hM : M ≤ 6) (hm : m < M) (hx : sm x) : SB M (up s m x) D := by
  obtain ⟨s1, s2, s3, s4, s5⟩ := sb
  refine ⟨fun k hk => ?_, fun h0 => ?_, ?_, ?_, s5⟩
  · rw [up_n s x (show ¬ 6 + k = m by omega), up_n s x (show ¬ 12 + k = m by omega), up_n s x (show ¬ 18 + k = m by omega)]
    have := s1 k hk
    refine ⟨?_, this.2⟩
    by_cases e : k = m
    · subst e
      rw [up_e]
      exact hx
    · rw [up_n _ _ e]
      exact this.1
  · rw [up_n _ _ (by omega)]
    exact s2 h0
  · rw [up_n _ _ (by omega)]
    exact s3
  · rw [up_n _ _ (by omega)]
    exact s4
theorem SB.u2 {m : Nat} {x : Int32} (sb : SB M s D) (hM : M ≤ 6) (hm : m < M) (hx : sm x) : SB M (up s (6 + m) x) D := by
  obtain ⟨s1, s2, s3, s4, s5⟩ := sb
  refine ⟨fun k hk => ?_, fun h0 => ?_, ?_, ?_, s5⟩
  · rw [up_n s x (show ¬ k = 6 + m by omega), up_n s x (show ¬ 12 + k = 6 + m by omega), up_n s x (show ¬ 18 + k = 6 + m by omega)]
    have := s1 k hk
    refine ⟨this.1, ?_, this.2.2⟩
    by_cases e : k = m
    · subst e
      rw [up_e]
      exact hx
    · rw [up_n _ _ (by omega)]
      exact this.2.1
  · rw [up_n _ _ (by omega)]
    exact s2 h0
  · rw [up_n _ _ (by omega)]
    exact s3
  · rw [up_n _ _ (by omega)]
    exact s4
theorem SB.u3 {m : Nat} {x : Int32} (sb : SB M s D) (hM : M ≤ 6) (hm : m < M) (hx : 0 ≤ x.toInt ∧ x.toInt ≤ 9) : SB M (up s (12 + m) x) D := by
  obtain ⟨s1, s2, s3, s4, s5⟩ := sb
  refine ⟨fun k hk => ?_, fun h0 => ?_, ?_, ?_, s5⟩
  · rw [up_n s x (show ¬ k = 12 + m by omega), up_n s x (show ¬ 6 + k = 12 + m by omega), up_n s x (show ¬ 18 + k = 12 + m by omega)]
    have := s1 k hk
    refine ⟨this.1, this.2.1, ?_, this.2.2.2⟩
    by_cases e : k = m
    · subst e
      rw [up_e]
      exact hx
    · rw [up_n _ _ (by omega)]
      exact this.2.2.1
  · rw [up_n _ _ (by omega)]
    exact s2 h0
  · rw [up_n _ _ (by omega)]
    exact s3
  · rw [up_n _ _ (by omega)]
    exact s4
theorem SB.u4 {m : Nat} {x : Int32} (sb : SB M s D) (hM : M ≤ 6) (hm : m < M) (hx : 0 ≤ x.toInt ∧ x.toInt ≤ 9999) : SB M (up s (18 + m) x) D := by
  obtain ⟨s1, s2, s3, s4, s5⟩ := sb
  refine ⟨fun k hk => ?_, fun h0 => ?_, ?_, ?_, s5⟩
  · rw [up_n s x (show ¬ k = 18 + m by omega), up_n s x (show ¬ 6 + k = 18 + m by omega), up_n s x (show ¬ 12 + k = 18 + m by omega)]
    have := s1 k hk
    refine ⟨this.1, this.2.1, this.2.2.1, ?_⟩
    by_cases e : k = m
    · subst e
      rw [up_e]
      exact hx
    · rw [up_n _ _ (by omega)]
      exact this.2.2.2
  · rw [up_n _ _ (by omega)]
    exact s2 h0
  · rw [up_n _ _ (by omega)]
    exact s3
  · rw [up_n _ _ (by omega)]
    exact s4
theorem SB.u5 {j : Nat} {x : Int32} (sb : SB M s D) (hM : M ≤ 6) (h1 : 24 ≤ j) (h2 : j ≤ 31) (hp : j = 29 → ∃ p, 1 ≤ p ∧ p ≤ 5 ∧ x = nI p) (hu : j = 30 → sm x) : SB M (up s j x) D := by
  obtain ⟨s1, s2, s3, s4, s5⟩ := sb
  refine ⟨fun k hk => ?_, fun h0 => ?_, ?_, ?_, s5⟩
  · rw [up_n s x (show ¬ k = j by omega), up_n s x (show ¬ 6 + k = j by omega), up_n s x (show ¬ 12 + k = j by omega), up_n s x (show ¬ 18 + k = j by omega)]
    exact s1 k hk
  · by_cases e : 29 = j
    · subst e
      rw [up_e]
      exact hp rfl
    · rw [up_n _ _ e]
      exact s2 h0
  · by_cases e : 30 = j
    · subst e
      rw [up_e]
      exact hu rfl
    · rw [up_n _ _ e]
      exact s3
  · rw [up_n _ _ (by omega)]
    exact s4
/-- zones: the class's state now, the reference's -/
def CW (a k : Nat) : Prop := (79 ≤ a ∧ a ≤ 84) ∨ ScrP a k
def MW (a k : Nat) : Prop := a = 416 ∨ ScrP a k
theorem mid_m {h1 h2 : aM} (i : InvA g M F L W N D c nx n T s lg ks Dk) (a1 : Ag (AZ nx) g h1) (a2 : Ag CW h1 h2) : ITold h2 M F L W ∧ StM h2 lg 416 0 s D ∧ KM h2 lg c ks Dk := by
  obtain ⟨i1, i2, i3, i4, ⟨i5, i6, i7⟩, ⟨i8, i9⟩, i10, i11, i12, i13, i14, i15, i16⟩ := i
  have hnx := i11.2.1
  have t : ∀ a k, ¬ ScrP a k → ¬ (79 ≤ a ∧ a ≤ 330) → gi h2 a k = gi g a k := fun a k q r => by
    rw [a2.2 a k (fun z => z.elim (fun y => r ⟨y.1, by omega⟩) q), a1.2 a k (by unfold AZ BZ; omega)]
  refine ⟨i2.tz (fun a k q => t a k (nS4 q) (by unfold TZ at q; omega)), i8.eq (fun k _ => t _ _ (nS3 (by omega)) (by omega)), i9.eq (t _ _ (by unfold ScrP; omega) (by omega)) (fun k => t _ _ (nS3 (by omega)) (by omega))⟩
theorem act_fin {h1 h2 h3 h4 : aM} {s' : Nat → Int32} (i : InvA g M F L W N D c nx n T s lg ks Dk) (a1 : Ag (AZ nx) g h1) (kc : KC h1 M F (min 40 (c + 1)) (nxt nx) (kpK c ks s)) (a2 : Ag CW h1 h2) (a3 : Ag MK h2 h3) (km : KM h3 lg (min 40 (c + 1)) (kpK c ks s) (kpD c Dk D)) (a4 : Ag MW h3 h4) (sc : StC h2 M F 79 s') (st : StM h4 lg 416 0 s' D) (sb : SB M s' D) : Inv h4 := by
  obtain ⟨i1, i2, i3, i4, ⟨i5, i6, i7⟩, ⟨i8, i9⟩, i10, i11, i12, i13, i14, i15, i16⟩ := i
  have hnx := i11.2.1
  have t3 : ∀ a k, ¬ ScrP a k → ¬ (a = 416 ∨ a = 421 ∨ (a = 399 ∧ k = 38)) → gi h4 a k = gi h2 a k := fun a k q r => by
    rw [a4.2 a k (fun z => z.elim (fun y => r (Or.inl y)) q), a3.2 a k (by unfold MK; omega)]
  have t2 : ∀ a k, ¬ ScrP a k → ¬ (79 ≤ a ∧ a ≤ 84) → ¬ (a = 416 ∨ a = 421 ∨ (a = 399 ∧ k = 38)) → gi h4 a k = gi h1 a k := fun a k q r u => by
    rw [t3 a k q u, a2.2 a k (fun z => z.elim r q)]
  have t : ∀ a k, ¬ ScrP a k → ¬ (79 ≤ a ∧ a ≤ 84) → ¬ (89 ≤ a ∧ a ≤ 330) → ¬ (a = 416 ∨ a = 421 ∨ (a = 399 ∧ k = 38)) → gi h4 a k = gi g a k := fun a k q r v u => by
    rw [t2 a k q r u, a1.2 a k (by unfold AZ BZ; omega)]
  have tz : ∀ a k, TZ a k → gi h4 a k = gi g a k := fun a k q => t a k (nS4 q) (by unfold TZ at q; omega) (by unfold TZ at q; omega) (by unfold TZ at q; omega)
  have kd := kpD_0 (D' := D) i11
  refine ⟨M, F, L, W, N, D, min 40 (c + 1), nxt nx, n, T, s', lg, kpK c ks s, kpD c Dk D, a4.1, i2.tz tz, i3.tz i2.1 i2.2.1 tz, i4.tz tz, ⟨sc.eq (fun b k hb => t3 _ _ (nS1 (by omega) (by omega)) (by omega)), kc.eq (fun a k h1 h2 => t2 _ _ (nS1 (by omega) (by omega)) (by omega) (by omega)), fun e h1 h2 w hw => ?_⟩, ⟨st, km.eq (a4.2 _ _ (by unfold MW ScrP; omega)) (fun k => a4.2 _ _ (by unfold MW ScrP; omega))⟩, sb, kb_keep i11 i10 (Or.inl rfl), i12.eq (t _ _ (nS2 (by omega)) (by omega) (by omega) (by omega)) (t _ _ (by unfold ScrP; omega) (by omega) (by omega) (by omega)) (fun a k h1 h2 => t _ _ (nS1 (by omega) (by omega)) (by omega) (by omega) (by omega)) (fun k => t _ _ (nS3 (by omega)) (by omega) (by omega) (by omega)), i13.eq (t _ _ (by unfold ScrP; omega) (by omega) (by omega) (by omega)) (t _ _ (by unfold ScrP; omega) (by omega) (by omega) (by omega)) (fun a k h1 h2 => t _ _ (nS3 (by omega)) (by omega) (by omega) (by omega)) (fun a k h1 h2 => t _ _ (nS3 (by omega)) (by omega) (by omega) (by omega)), i14.eq (t _ _ (by unfold ScrP; omega) (by omega) (by omega) (by omega)) (t _ _ (by unfold ScrP; omega) (by omega) (by omega) (by omega)) (fun k => t _ _ (nS3 (by omega)) (by omega) (by omega) (by omega)) (fun k => t _ _ (nS3 (by omega)) (by omega) (by omega) (by omega)), fun a j h1 h2 => ?_, fun k hk => ?_, ?_⟩
  · rw [t _ _ (nS1 (by omega) (by omega)) (by omega) (by omega) (by omega)]
    exact i7 e h1 (by omega) w hw
  · rw [t _ _ (nS2 (by omega)) (by omega) (by omega) (by omega)]
    exact i15 a j h1 h2
  · rw [t 371 k (nS3 (by omega)) (by omega) (by omega) (by omega), t 417 k (nS3 (by omega)) (by omega) (by omega) (by omega)]
    exact i16.1 k hk
  · rw [t 32 18 (nS2 (by omega)) (by omega) (by omega) (by omega), t 399 30 (by unfold ScrP; omega) (by omega) (by omega) (by omega)]
    exact i16.2
theorem inv_ref {w : Nat} (i : InvA g M F L W N D c nx n T s lg ks Dk) (hw : w < 5) : Inv (aWi (aWi g 371 w (gi g 371 w + 1)) 417 w (gi g 417 w + 1)) := by
  obtain ⟨i1, i2, i3, i4, ⟨i5, i6, i7⟩, ⟨i8, i9⟩, i10, i11, i12, i13, i14, i15, i16⟩ := i
  have t : ∀ a k, ¬ (a = 371 ∨ a = 417) → gi (aWi (aWi g 371 w (gi g 371 w + 1)) 417 w (gi g 417 w + 1)) a k = gi g a k := fun a k q => by
    rw [gi_wi_n (by omega), gi_wi_n (by omega)]
  have tz : ∀ a k, TZ a k → gi (aWi (aWi g 371 w (gi g 371 w + 1)) 417 w (gi g 417 w + 1)) a k = gi g a k := fun a k q => t a k (by unfold TZ at q; omega)
  refine ⟨M, F, L, W, N, D, c, nx, n, T, s, lg, ks, Dk, i1, i2.tz tz, i3.tz i2.1 i2.2.1 tz, i4.tz tz, ⟨i5.eq (fun b k hb => t _ _ (by omega)), i6.eq (fun a k h1 h2 => t _ _ (by omega)), i7.eq (fun w k hw => t _ _ (by omega))⟩, ⟨i8.eq (fun k _ => t _ _ (by omega)), i9.eq (t _ _ (by omega)) (fun k => t _ _ (by omega))⟩, i10, i11, i12.eq (t _ _ (by omega)) (t _ _ (by omega)) (fun a k h1 h2 => t _ _ (by omega)) (fun k => t _ _ (by omega)), i13.eq (t _ _ (by omega)) (t _ _ (by omega)) (fun a k h1 h2 => t _ _ (by omega)) (fun a k h1 h2 => t _ _ (by omega)), i14.eq (t _ _ (by omega)) (t _ _ (by omega)) (fun k => t _ _ (by omega)) (fun k => t _ _ (by omega)), fun a j h1 h2 => ?_, fun k hk => ?_, ?_⟩
  · rw [t _ _ (by omega)]
    exact i15 a j h1 h2
  · have := i16.1 k hk
    by_cases e : k = w
    · subst e
      rw [gi_wi_n (by omega), gi_wi_e, gi_wi_e, this]
    · rw [gi_wi_n (by omega), gi_wi_n (by omega), gi_wi_n (by omega), gi_wi_n (by omega), this]
  · rw [t _ _ (by omega), t _ _ (by omega)]
    exact i16.2
end O1
