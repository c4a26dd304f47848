-- deps: 82.mpars5
section F3
variable {B : Nat → Nat} {T n : Nat}
theorem bnd_ex {x : Option PR} {f : Nat → List Tk → Option PR} (h1 : ∃ r, x = some r) (h2 : ∀ p t, x = some (.inr (p, t)) → ∃ r, f p t = some r) : ∃ r, bnd x f = some r := by
  obtain ⟨r, rfl⟩ := h1
  cases r with
  | inl q => exact ⟨.inl q, rfl⟩
  | inr y =>
    obtain ⟨p, t⟩ := y
    exact h2 p t rfl
def rkM : Nat → Nat
  | 2 => 2
  | 0 => 3
  | 9 => 4
  | 5 => 5
  | _ => 1
theorem pr_ex (B : Nat → Nat) (T : Nat) : ∀ n m e p, (m < 7 ∨ m = 8 ∨ m = 9 ∨ m = 10) → p ≤ T → 6 * (T - p) + rkM m ≤ n → ∃ r, pr B T n m e p = some r := by
  intro n
  induction n with
  | zero =>
    intro m e p hm hp hn
    exfalso
    have : 1 ≤ rkM m := by
      unfold rkM
      split <;> omega
    omega
  | succ n ih =>
    intro m e p hm hp hn
    have hs := sk_le (B := B) hp
    have hm2 : m = 0 ∨ m = 1 ∨ m = 2 ∨ m = 3 ∨ m = 4 ∨ m = 5 ∨ m = 6 ∨ m = 8 ∨ m = 9 ∨ m = 10 := by omega
    have ps : ∀ m e p p1 t1, p ≤ T → pr B T n m e p = some (.inr (p1, t1)) → p + ltM m ≤ p1 ∧ p1 ≤ T := fun m e p p1 t1 h1 h2 => by
      have := pr_pos _ _ _ _ _ h2 h1
      exact ⟨this.1, this.2.1⟩
    rcases hm2 with rfl | rfl | rfl | rfl | rfl | rfl | rfl | rfl | rfl | rfl
    · rw [prE0]
      have hn : 6 * (T - p) + 3 ≤ n + 1 := hn
      refine bnd_ex (ih 2 e p (by omega) hp (show _ + 2 ≤ n by omega)) (fun p1 t1 e1 => ?_)
      have i1 := ps _ _ _ _ _ hp e1
      have i2 : p + 1 ≤ p1 := i1.1
      exact bnd_ex (ih 1 e p1 (by omega) i1.2 (show _ + 1 ≤ n by omega)) (fun p2 t2 _ => ⟨_, rfl⟩)
    · rw [prE1]
      have hn : 6 * (T - p) + 1 ≤ n + 1 := hn
      split
      · next o ho =>
        have := opS_lt ho
        refine bnd_ex (ih 2 e _ (by omega) (by omega) (show _ + 2 ≤ n by omega)) (fun p1 t1 e1 => ?_)
        have i1 := ps _ _ _ _ _ (by omega) e1
        exact bnd_ex (ih 1 e p1 (by omega) i1.2 (show _ + 1 ≤ n by omega)) (fun p2 t2 _ => ⟨_, rfl⟩)
      · exact ⟨_, rfl⟩
    · rw [prE2]
      have hn : 6 * (T - p) + 2 ≤ n + 1 := hn
      refine bnd_ex (ih 4 e p (by omega) hp (show _ + 1 ≤ n by omega)) (fun p1 t1 e1 => ?_)
      have i1 := ps _ _ _ _ _ hp e1
      have i2 : p + 1 ≤ p1 := i1.1
      exact bnd_ex (ih 3 e p1 (by omega) i1.2 (show _ + 1 ≤ n by omega)) (fun p2 t2 _ => ⟨_, rfl⟩)
    · rw [prE3]
      have hn : 6 * (T - p) + 1 ≤ n + 1 := hn
      split
      · next o ho =>
        have := opT_lt ho
        refine bnd_ex (ih 4 e _ (by omega) (by omega) (show _ + 1 ≤ n by omega)) (fun p1 t1 e1 => ?_)
        have i1 := ps _ _ _ _ _ (by omega) e1
        exact bnd_ex (ih 3 e p1 (by omega) i1.2 (show _ + 1 ≤ n by omega)) (fun p2 t2 _ => ⟨_, rfl⟩)
      · exact ⟨_, rfl⟩
    · rw [prE4]
      have hn : 6 * (T - p) + 1 ≤ n + 1 := hn
      split
      · split
        · exact ⟨_, rfl⟩
        · exact ⟨_, rfl⟩
      · split
        · exact ⟨_, rfl⟩
        · split
          · next hb =>
            have := sg_lt (by omega) hb.1
            refine bnd_ex (ih 0 _ _ (by omega) (by omega) (show _ + 3 ≤ n by omega)) (fun p1 t1 e1 => ?_)
            split
            · exact ⟨_, rfl⟩
            · exact ⟨_, rfl⟩
          · exact ⟨_, rfl⟩
    · rw [prE5]
      have hn : 6 * (T - p) + 5 ≤ n + 1 := hn
      refine bnd_ex (ih 9 e p (by omega) hp (show _ + 4 ≤ n by omega)) (fun p1 t1 e1 => ?_)
      have i1 := ps _ _ _ _ _ hp e1
      have i2 : p + 1 ≤ p1 := i1.1
      refine bnd_ex (ih 8 e p1 (by omega) i1.2 (show _ + 1 ≤ n by omega)) (fun p2 t2 e2 => ?_)
      have i3 := ps _ _ _ _ _ i1.2 e2
      exact bnd_ex (ih 6 e p2 (by omega) i3.2 (show _ + 1 ≤ n by omega)) (fun p3 t3 _ => ⟨_, rfl⟩)
    · rw [prE6]
      have hn : 6 * (T - p) + 1 ≤ n + 1 := hn
      split
      · next ho =>
        have := sg_lt (by omega) ho
        refine bnd_ex (ih 9 e _ (by omega) (by omega) (show _ + 4 ≤ n by omega)) (fun p1 t1 e1 => ?_)
        have i1 := ps _ _ _ _ _ (by omega) e1
        refine bnd_ex (ih 8 e p1 (by omega) i1.2 (show _ + 1 ≤ n by omega)) (fun p2 t2 e2 => ?_)
        have i3 := ps _ _ _ _ _ i1.2 e2
        exact bnd_ex (ih 6 e p2 (by omega) i3.2 (show _ + 1 ≤ n by omega)) (fun p3 t3 _ => ⟨_, rfl⟩)
      · exact ⟨_, rfl⟩
    · rw [prE8]
      have hn : 6 * (T - p) + 1 ≤ n + 1 := hn
      split
      · next ho =>
        have := sg_lt (by omega) ho
        refine bnd_ex (ih 9 e _ (by omega) (by omega) (show _ + 4 ≤ n by omega)) (fun p1 t1 e1 => ?_)
        have i1 := ps _ _ _ _ _ (by omega) e1
        exact bnd_ex (ih 8 e p1 (by omega) i1.2 (show _ + 1 ≤ n by omega)) (fun p2 t2 _ => ⟨_, rfl⟩)
      · exact ⟨_, rfl⟩
    · rw [prE9]
      have hn : 6 * (T - p) + 4 ≤ n + 1 := hn
      split
      · next ho =>
        have := sg_lt (by omega) ho
        split
        · exact bnd_ex (ih 9 _ _ (by omega) (by omega) (show _ + 4 ≤ n by omega)) (fun p1 t1 _ => ⟨_, rfl⟩)
        · exact ⟨_, rfl⟩
      · split
        · next ho =>
          have := sg_lt (by omega) ho
          split
          · refine bnd_ex (ih 5 _ _ (by omega) (by omega) (show _ + 5 ≤ n by omega)) (fun p1 t1 e1 => ?_)
            split
            · exact ⟨_, rfl⟩
            · exact ⟨_, rfl⟩
          · exact ⟨_, rfl⟩
        · refine bnd_ex (ih 0 e _ (by omega) hs.2 (show _ + 3 ≤ n by omega)) (fun p1 t1 e1 => ?_)
          have i1 := ps _ _ _ _ _ hs.2 e1
          have i2 : sk B T p + 1 ≤ p1 := i1.1
          exact bnd_ex (ih 10 e p1 (by omega) i1.2 (show _ + 1 ≤ n by omega)) (fun p2 t2 _ => ⟨_, rfl⟩)
    · rw [prE10]
      have hn : 6 * (T - p) + 1 ≤ n + 1 := hn
      split
      · next o ho =>
        have := opC_lt ho
        exact bnd_ex (ih 0 e _ (by omega) (by omega) (show _ + 3 ≤ n by omega)) (fun p1 t1 _ => ⟨_, rfl⟩)
      · exact ⟨_, rfl⟩
end F3
