-- deps: 9h.take
/-! ===== text ===== -/
section X1
variable {g h : aM} {M F L W N D c nx n T : Nat} {s : Nat → Int32} {lg ks : Nat → Nat → Int32} {Dk : Nat → Nat} {B : Nat → Nat}
theorem rdG_er {q : Nat} : ∀ f p s, RsOk s → rdG B T f p s = some (.inl q) → p ≤ T → q ≤ T
  | 0, p, s, so, h, hp => by
    unfold rdG at h
    cases h
  | f + 1, p, s, so, h, hp => by
    unfold rdG at h
    cases e : rcG B T p s with
    | none =>
      rw [e] at h
      cases h
    | some r0 =>
      rw [e] at h
      cases r0 with
      | inl z =>
        cases h
        exact rcG_er e hp
      | inr x =>
        obtain ⟨p1, s1⟩ := x
        simp only at h
        obtain ⟨c1, c2, c3⟩ := rcG_ok so e hp
        have hs := sk_le (B := B) c3
        split at h
        · by_cases hw : whP s1
          · rw [enG_t hw] at h
            cases h
          · rw [enG_f hw] at h
            cases h
            exact Nat.le_refl _
        · split at h
          · next ht hb => exact rdG_er f _ _ c1 h (by omega)
          · cases h
            exact hs.2
theorem lwG_er {q n : Nat} : ∀ f p ts cs, lwG B T n f p ts cs = some (.inl q) → p ≤ T → q ≤ T
  | 0, p, ts, cs, h, hp => by
    unfold lwG at h
    cases h
  | f + 1, p, ts, cs, h, hp => by
    unfold lwG at h
    cases e : clG B T n p with
    | none =>
      rw [e] at h
      cases h
    | some r0 =>
      rw [e] at h
      cases r0 with
      | inl z =>
        cases h
        exact clG_pos e hp
      | inr x =>
        obtain ⟨p1, t1, t2⟩ := x
        simp only at h
        obtain ⟨c1, c2, c3⟩ : CpR T p (.inr (p1, t1, t2)) := clG_pos e hp
        have hs := sk_le (B := B) c2
        split at h
        · cases h
        · split at h
          · exact lwG_er f _ _ _ h (by omega)
          · cases h
            exact hs.2
theorem sm_n {x : Nat} (h : x ≤ 99) : sm (nI x) := sm_nI h
theorem inv_ride {rs : RS} (i : InvA g M F L W N D c nx n T s lg ks Dk) (so : RsOk rs) (wh : whP rs) (ok : OK h) (t : ∀ a k, ¬ ScrP a k → ¬ BX a k → ¬ BY a k → ¬ (a = 399 ∧ k = 2) → gi h a k = gi g a k) (bc : BgC h rs) (bm : BgM h rs) (e2 : gi h 399 2 = nI 0) : Inv h := by
  obtain ⟨i1, i2, i3, i4, ⟨i5, i6, i7⟩, ⟨i8, i9⟩, i10, i11, i12, i13, i14, i15, i16⟩ := i
  obtain ⟨o1, o2, -, o4, o5, o6⟩ := so
  obtain ⟨w1, w2, w3⟩ := wh
  obtain ⟨c1, c2, c3, c4, c5, c6, c7, c8, c9, c10, c11⟩ := bc
  obtain ⟨m1, m2, m3, m4, m5, m6, m7, m8, m9, m10⟩ := bm
  have l0 := o4 0 (by omega)
  have l1 := o4 1 (by omega)
  have l2 := o4 2 (by omega)
  have l3 := o4 3 (by omega)
  have l0a : 5 ≤ rs.2.1 0 := l0.1
  have l0b : rs.2.1 0 ≤ 30 := l0.2
  have l1a : 1 ≤ rs.2.1 1 := l1.1
  have l1b : rs.2.1 1 ≤ 5 := l1.2
  have l2a : 1 ≤ rs.2.1 2 := l2.1
  have l2b : rs.2.1 2 ≤ 20 := l2.2
  have l3b : rs.2.1 3 ≤ 9 := l3.2
  have u0 : ∀ k, k < rs.2.2.1.length → mf rs.2.2.1 k 0 ≤ 30 := fun k hk => o5 k hk 0 (by omega)
  have u1 : ∀ k, k < rs.2.2.1.length → mf rs.2.2.1 k 1 ≤ 9 := fun k hk => o5 k hk 1 (by omega)
  have u2 : ∀ k, k < rs.2.2.1.length → mf rs.2.2.1 k 2 ≤ 9 := fun k hk => o5 k hk 2 (by omega)
  have u3 : ∀ k, k < rs.2.2.1.length → mf rs.2.2.1 k 3 ≤ 9 := fun k hk => o5 k hk 3 (by omega)
  have v0 : ∀ k, k < rs.2.2.2.length → mf rs.2.2.2 k 0 ≤ 30 := fun k hk => o6 k hk 0 (by omega)
  have m40 : ∀ k, k < rs.2.2.1.length → gi h 414 (4 * k) = nI (mf rs.2.2.1 k 0) := fun k hk => m4 k 0 hk (by omega)
  have m50 : ∀ k, k < rs.2.2.2.length → gi h 415 (2 * k) = nI (mf rs.2.2.2 k 0) := fun k hk => m5 k 0 hk (by omega)
  have it : ITold h rs.2.2.1.length rs.2.2.2.length (rs.2.1 0) (rs.2.1 2) := by
    refine ⟨o1, o2, l0b, l2b, fun _ => ⟨l0a, l2a⟩, c2, m1, c3, m2, c4 0 (by omega), m3 0 (by omega), c4 2 (by omega), m3 2 (by omega), fun k hk => ?_, fun k hk => ?_, fun a b ha hb e => ?_⟩
    · rw [c5 k 3 hk (by omega), m4 k 3 hk (by omega)]
      exact ⟨rfl, sm_n (by have := u3 k hk; omega)⟩
    · rw [c6 k 0 hk (by omega), m50 k hk]
      exact ⟨rfl, _, v0 k hk, rfl⟩
    · rw [m50 a ha, m50 b hb, nI_eq (by have := v0 a ha; omega) (by have := v0 b hb; omega)] at e
      rcases Nat.lt_trichotomy a b with z | z | z
      · exact absurd e ((w3 b hb).2 a z)
      · exact z
      · exact absurd e.symm ((w3 a ha).2 b z)
  have if1 : IFirst h rs.2.2.1.length rs.2.2.2.length := by
    obtain ⟨s1, s2, s3, s4, s5, s6⟩ := c7
    refine ⟨fun k hk => ?_, fun k hk => ?_, ?_, ?_, fun _ => ⟨_, l1a, l1b, m3 1 (by omega)⟩, ?_⟩
    · obtain ⟨x1, x2, -, -⟩ := s1 k hk
      rw [sv_1 (by omega)] at x1
      rw [sv_2 (by omega)] at x2
      rw [m40 k hk, m4 k 1 hk (by omega)]
      exact ⟨x1, x2, sm_n (by have := u0 k hk; omega), sm_n (by have := u1 k hk; omega)⟩
    · have x := s2 k hk
      rw [sv_5 (by omega)] at x
      rw [m5 k 1 hk (by omega)]
      exact x
    · rw [m3 1 (by omega), s3]
      rfl
    · rw [m3 3 (by omega), s4]
      rfl
    · rw [m3 3 (by omega)]
      exact sm_n (by omega)
  have sb : SB rs.2.2.1.length (svF rs) 0 := by
    refine ⟨fun k hk => ?_, fun _ => ⟨rs.2.1 1, l1a, l1b, rfl⟩, ?_, rfl, by omega⟩
    · rw [sv_1 (by omega), sv_2 (by omega), sv_3 (by omega), sv_4 (by omega)]
      have x2 := u2 k hk
      rw [nI_toInt (by omega)]
      exact ⟨sm_n (by have := u0 k hk; omega), sm_n (by have := u1 k hk; omega), ⟨by omega, by omega⟩, by decide, by decide⟩
    · show sm (nI (rs.2.1 3))
      exact sm_n (by omega)
  have il : ILaw h N := i4.lz (fun j a k hj z => t a k (by unfold LZ at z; have := i4.1; unfold ScrP; omega) (by unfold LZ at z; have := i4.1; unfold BX; omega) (by unfold LZ at z; have := i4.1; unfold BY; omega) (by unfold LZ at z; have := i4.1; omega)) (t _ _ (by unfold ScrP; omega) (by unfold BX; omega) (by unfold BY; omega) (by omega)) (t _ _ (by unfold ScrP; omega) (by unfold BX; omega) (by unfold BY; omega) (by omega)) (t _ _ (by unfold ScrP; omega) (by unfold BX; omega) (by unfold BY; omega) (by omega)) (t _ _ (by unfold ScrP; omega) (by unfold BX; omega) (by unfold BY; omega) (by omega))
  refine ⟨rs.2.2.1.length, rs.2.2.2.length, rs.2.1 0, rs.2.1 2, N, 0, 0, nx, 0, 0, svF rs, lg, ks, fun _ => 0, ok, it, if1, il, ⟨c8, ⟨?_, c9, fun j hj => absurd hj (Nat.not_lt_zero _)⟩, fun e he => absurd he (Nat.not_lt_zero _)⟩, ⟨⟨fun k hk => ?_, ?_, fun e he => absurd he (Nat.not_lt_zero _)⟩, m8, fun j hj => absurd hj (Nat.not_lt_zero _)⟩, sb, ⟨by omega, i11.2.1, fun j hj => absurd hj (Nat.not_lt_zero _), rfl, fun j hj => absurd hj (Nat.not_lt_zero _)⟩, ⟨by rw [c11, m10], Or.inl m10⟩, ⟨by omega, c10, m9, fun j hj => absurd hj (Nat.not_lt_zero _)⟩, ⟨by omega, c1, e2, fun j hj => absurd hj (Nat.not_lt_zero _)⟩, fun a j h1 h2 => ?_, fun k hk => ?_, ?_⟩
  · rw [t _ _ (by unfold ScrP; omega) (by unfold BX; omega) (by unfold BY; omega) (by omega)]
    exact i6.1
  · rw [Nat.zero_add]
    exact m6 k hk
  · rw [Nat.zero_add]
    exact m7
  · rw [t _ _ (nS2 (by omega)) (by unfold BX; omega) (by unfold BY; omega) (by omega)]
    exact i15 a j h1 h2
  · rw [t 371 k (nS3 (by omega)) (by unfold BX; omega) (by unfold BY; omega) (by omega), t 417 k (nS3 (by omega)) (by unfold BX; omega) (by unfold BY; omega) (by omega)]
    exact i16.1 k hk
  · rw [t 32 18 (nS2 (by omega)) (by unfold BX; omega) (by unfold BY; omega) (by omega), t 399 30 (by unfold ScrP; omega) (by unfold BX; omega) (by unfold BY; omega) (by omega)]
    exact i16.2
theorem BgC.mv {h' : aM} {rs : RS} (so : RsOk rs) (bc : BgC h rs) (t : ∀ a k, a < 399 → gi h' a k = gi h a k) : BgC h' rs := by
  obtain ⟨c1, c2, c3, c4, c5, c6, c7, c8, c9, c10, c11⟩ := bc
  have o1 := so.1
  have o2 := so.2.1
  refine ⟨by rw [t _ _ (by omega), c1], by rw [t _ _ (by omega), c2], by rw [t _ _ (by omega), c3], fun k hk => by rw [t _ _ (by omega), c4 k hk], fun i k hi hk => by rw [t _ _ (by omega), c5 i k hi hk], fun i k hi hk => by rw [t _ _ (by omega), c6 i k hi hk], c7.eq (fun b k hb => t _ _ (by omega)), c8.eq (fun b k hb => t _ _ (by omega)), by rw [t _ _ (by omega), c9], by rw [t _ _ (by omega), c10], by rw [t _ _ (by omega), c11]⟩
end X1
