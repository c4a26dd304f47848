-- deps: 21.lay
/-! ===== tools: numbers, loops, places of rows ===== -/
theorem nltL {a m : Nat} (ha : a < 2 ^ 31) (hm : (OfNat.ofNat m : Nat) < 2 ^ 31) : nI a < (no_index (OfNat.ofNat m : Int32)) ↔ a < (OfNat.ofNat m : Nat) := nI_ltI ha hm
theorem nltR {a m : Nat} (ha : a < 2 ^ 31) (hm : (OfNat.ofNat m : Nat) < 2 ^ 31) : (no_index (OfNat.ofNat m : Int32)) < nI a ↔ (OfNat.ofNat m : Nat) < a := nI_ltI hm ha
theorem nleL {a m : Nat} (ha : a < 2 ^ 31) (hm : (OfNat.ofNat m : Nat) < 2 ^ 31) : nI a ≤ (no_index (OfNat.ofNat m : Int32)) ↔ a ≤ (OfNat.ofNat m : Nat) := nI_leI ha hm
theorem nleR {a m : Nat} (ha : a < 2 ^ 31) (hm : (OfNat.ofNat m : Nat) < 2 ^ 31) : (no_index (OfNat.ofNat m : Int32)) ≤ nI a ↔ (OfNat.ofNat m : Nat) ≤ a := nI_leI hm ha
theorem neqL {a m : Nat} (ha : a < 2 ^ 31) (hm : (OfNat.ofNat m : Nat) < 2 ^ 31) : nI a = (no_index (OfNat.ofNat m : Int32)) ↔ a = (OfNat.ofNat m : Nat) := nI_eq ha hm
theorem neqR {a m : Nat} (ha : a < 2 ^ 31) (hm : (OfNat.ofNat m : Nat) < 2 ^ 31) : (no_index (OfNat.ofNat m : Int32)) = nI a ↔ (OfNat.ofNat m : Nat) = a := nI_eq hm ha
theorem naL {a m : Nat} : nI a + (no_index (OfNat.ofNat m : Int32)) = nI (a + (OfNat.ofNat m : Nat)) := nI_add a m
theorem naR {a m : Nat} : (no_index (OfNat.ofNat m : Int32)) + nI a = nI ((OfNat.ofNat m : Nat) + a) := nI_add m a
theorem nI_mul (a b : Nat) : nI a * nI b = nI (a * b) := by
  unfold nI
  exact (Int32.ofNat_mul a b).symm
theorem nmL {a m : Nat} : nI a * (no_index (OfNat.ofNat m : Int32)) = nI (a * (OfNat.ofNat m : Nat)) := nI_mul a m
theorem nmR {a m : Nat} : (no_index (OfNat.ofNat m : Int32)) * nI a = nI ((OfNat.ofNat m : Nat) * a) := nI_mul m a
theorem nI_sub {a b : Nat} (hb : b ≤ a) : nI a - nI b = nI (a - b) := by
  unfold nI
  exact (Int32.ofNat_sub a b hb).symm
theorem nsL {a m : Nat} (hm : (OfNat.ofNat m : Nat) ≤ a) : nI a - (no_index (OfNat.ofNat m : Int32)) = nI (a - (OfNat.ofNat m : Nat)) := nI_sub hm
theorem nsR {a m : Nat} (hm : a ≤ (OfNat.ofNat m : Nat)) : (no_index (OfNat.ofNat m : Int32)) - nI a = nI ((OfNat.ofNat m : Nat) - a) := nI_sub hm
theorem n0l {a : Nat} (ha : a < 2 ^ 31) : nI a < 0 ↔ False := ⟨nI_pos ha, False.elim⟩
theorem n0r {a : Nat} (ha : a < 2 ^ 31) : 0 ≤ nI a ↔ True := ⟨fun _ => trivial, fun _ => nI_pos' ha⟩
theorem nm1 {a : Nat} (ha : a < 2 ^ 31) : nI a = -1 ↔ False := ⟨fun e => by
  have h1 := nI_toInt ha
  rw [e] at h1
  have h2 : (-1 : Int32).toInt = -1 := rfl
  omega, False.elim⟩
theorem nm1' {a : Nat} (ha : a < 2 ^ 31) : -1 = nI a ↔ False := ⟨fun e => (nm1 ha).mp e.symm, False.elim⟩
theorem nm1l {a : Nat} (ha : a < 2 ^ 31) : nI a < -1 ↔ False := ⟨fun e => by
  have h1 := Int32.lt_iff_toInt_lt.mp e
  rw [nI_toInt ha] at h1
  have h2 : (-1 : Int32).toInt = -1 := rfl
  omega, False.elim⟩
theorem nm1r {a : Nat} (ha : a < 2 ^ 31) : -1 < nI a ↔ True := ⟨fun _ => trivial, fun _ => by
  apply Int32.lt_iff_toInt_lt.mpr
  rw [nI_toInt ha]
  have h2 : (-1 : Int32).toInt = -1 := rfl
  omega⟩
theorem vpn {j n : Nat} (hj : j < 2 ^ 31) : vp_in (nI j) n ↔ j < n := by
  rw [vp_in_iff, nI_toInt hj]
  omega
/-- to whole numbers -/
theorem lti {x y : Int32} : x < y ↔ x.toInt < y.toInt := Int32.lt_iff_toInt_lt
theorem lei {x y : Int32} : x ≤ y ↔ x.toInt ≤ y.toInt := Int32.le_iff_toInt_le
theorem eqi {x y : Int32} : x = y ↔ x.toInt = y.toInt := Int32.toInt_inj.symm
theorem adi (x y : Int32) : (x + y).toInt = if (x.toInt + y.toInt) % 4294967296 < 2147483648 then (x.toInt + y.toInt) % 4294967296 else (x.toInt + y.toInt) % 4294967296 - 4294967296 := Int32.toInt_add _ _
theorem sbi (x y : Int32) : (x - y).toInt = if (x.toInt - y.toInt) % 4294967296 < 2147483648 then (x.toInt - y.toInt) % 4294967296 else (x.toInt - y.toInt) % 4294967296 - 4294967296 := Int32.toInt_sub _ _
theorem ngi (x : Int32) : (-x).toInt = if (-x.toInt) % 4294967296 < 2147483648 then (-x.toInt) % 4294967296 else (-x.toInt) % 4294967296 - 4294967296 := Int32.toInt_neg _
theorem rgi (x : Int32) : -2147483648 ≤ x.toInt ∧ x.toInt < 2147483648 := ⟨Int32.le_toInt x, Int32.toInt_lt x⟩
/-- a loop that counts -/
theorem aLoop {d k pc : Nat} {Q : Option Value → aM → Prop} (n : Nat) (I : Nat → aV → aM → Prop)
    (step : ∀ j lv h, j < n → I j lv h → (∀ lv' h', I (j + 1) lv' h' → AW d k pc lv' [] h' Q) → AW d k pc lv [] h Q)
    (fin : ∀ lv h, I n lv h → AW d k pc lv [] h Q) : ∀ (j : Nat) (lv : aV) (h : aM), j ≤ n → I j lv h → AW d k pc lv [] h Q := by
  intro j lv h hj
  generalize hr : n - j = r
  induction r generalizing j lv h with
  | zero =>
    intro hi
    have : j = n := by omega
    subst this
    exact fin lv h hi
  | succ r ih =>
    intro hi
    exact step j lv h (by omega) hi (fun lv' h' hi' => ih (j + 1) lv' h' (by omega) (by omega) hi')
/-- places of rows in rows -/
theorem rft38 : ∀ k, k < 6 → rft 38 k = some (39 + k) := by decide
theorem rft60 : ∀ k, k < 6 → rft 60 k = some (61 + k) := by decide
theorem rft45 : ∀ k, k < 5 → rft 45 k = some (46 + k) := by decide
theorem rft67 : ∀ k, k < 5 → rft 67 k = some (68 + k) := by decide
theorem rft90 : ∀ k, k < 40 → rft 90 k = some (91 + 6 * k) := by decide
theorem rft341 : ∀ k, k < 4 → rft 341 k = some (375 + 6 * k) := by decide
theorem rft350 : ∀ k, k < 6 → rft 350 k = some (351 + k) := by decide
theorem rft363 : ∀ k, k < 7 → rft 363 k = some (364 + k) := by decide
theorem rft372 : ∀ k, k < 2 → rft 372 k = some (373 + k) := by decide
theorem gr_of {h : aM} (o : OK h) {a k b : Nat} (e : rft a k = some b) : gr h a k = some b := by
  rw [o.2 a k (by rw [e]; simp), e]
theorem g38 {h : aM} {k : Nat} (o : OK h) (hk : k < 6) : gr h 38 k = some (39 + k) := gr_of o (rft38 k hk)
theorem g60 {h : aM} {k : Nat} (o : OK h) (hk : k < 6) : gr h 60 k = some (61 + k) := gr_of o (rft60 k hk)
theorem g45 {h : aM} {k : Nat} (o : OK h) (hk : k < 5) : gr h 45 k = some (46 + k) := gr_of o (rft45 k hk)
theorem g67 {h : aM} {k : Nat} (o : OK h) (hk : k < 5) : gr h 67 k = some (68 + k) := gr_of o (rft67 k hk)
theorem g90 {h : aM} {k : Nat} (o : OK h) (hk : k < 40) : gr h 90 k = some (91 + 6 * k) := gr_of o (rft90 k hk)
theorem g341 {h : aM} {k : Nat} (o : OK h) (hk : k < 4) : gr h 341 k = some (375 + 6 * k) := gr_of o (rft341 k hk)
theorem g350 {h : aM} {k : Nat} (o : OK h) (hk : k < 6) : gr h 350 k = some (351 + k) := gr_of o (rft350 k hk)
theorem g363 {h : aM} {k : Nat} (o : OK h) (hk : k < 7) : gr h 363 k = some (364 + k) := gr_of o (rft363 k hk)
theorem g372 {h : aM} {k : Nat} (o : OK h) (hk : k < 2) : gr h 372 k = some (373 + k) := gr_of o (rft372 k hk)
theorem shp39 : ∀ k, k < 6 → shp (39 + k) = (100, 4) := by decide
theorem shp61 : ∀ k, k < 6 → shp (61 + k) = (100, 4) := by decide
theorem shp46 : ∀ k, k < 5 → shp (46 + k) = (100, 2) := by decide
theorem shp68 : ∀ k, k < 5 → shp (68 + k) = (100, 2) := by decide
theorem shp91 : ∀ k, k < 40 → shp (91 + 6 * k) = (7, 9) ∧ shp (92 + 6 * k) = (100, 6) ∧ shp (93 + 6 * k) = (100, 6) ∧ shp (94 + 6 * k) = (100, 6) ∧ shp (95 + 6 * k) = (100, 6) ∧ shp (96 + 6 * k) = (100, 5) := by decide
theorem rft91 : ∀ k, k < 40 → rft (91 + 6 * k) 0 = some (92 + 6 * k) ∧ rft (91 + 6 * k) 1 = some (93 + 6 * k) ∧ rft (91 + 6 * k) 2 = some (94 + 6 * k) ∧ rft (91 + 6 * k) 3 = some (95 + 6 * k) ∧ rft (91 + 6 * k) 4 = some (96 + 6 * k) := by decide
theorem shp375 : ∀ k, k < 4 → shp (375 + 6 * k) = (3, 7) ∧ shp (376 + 6 * k) = (100, 240) ∧ shp (377 + 6 * k) = (100, 80) ∧ shp (378 + 6 * k) = (100, 80) ∧ shp (379 + 6 * k) = (100, 6) ∧ shp (380 + 6 * k) = (100, 64) := by decide
theorem rft375 : ∀ k, k < 4 → rft (375 + 6 * k) 0 = some (376 + 6 * k) ∧ rft (375 + 6 * k) 1 = some (377 + 6 * k) ∧ rft (375 + 6 * k) 2 = some (378 + 6 * k) ∧ rft (375 + 6 * k) 5 = some (379 + 6 * k) ∧ rft (375 + 6 * k) 6 = some (380 + 6 * k) := by decide
theorem shp351 : ∀ k, k < 6 → shp (351 + k) = (100, 31) := by decide
theorem shp364 : ∀ k, k < 7 → shp (364 + k) = (100, 20) := by decide
theorem shp373 : ∀ k, k < 2 → shp (373 + k) = (100, 25) := by decide
theorem sh_of {h : aM} (o : OK h) {a : Nat} {s : Nat × Nat} (e : shp a = s) (h1 : 0 < a) (h2 : a < 430) : sh h a = some s := by
  rw [o.1 a h1 h2, e]
theorem q39 {h : aM} {k : Nat} (o : OK h) (hk : k < 6) : sh h (39 + k) = some (100, 4) := sh_of o (shp39 k hk) (by omega) (by omega)
theorem q61 {h : aM} {k : Nat} (o : OK h) (hk : k < 6) : sh h (61 + k) = some (100, 4) := sh_of o (shp61 k hk) (by omega) (by omega)
theorem q46 {h : aM} {k : Nat} (o : OK h) (hk : k < 5) : sh h (46 + k) = some (100, 2) := sh_of o (shp46 k hk) (by omega) (by omega)
theorem q68 {h : aM} {k : Nat} (o : OK h) (hk : k < 5) : sh h (68 + k) = some (100, 2) := sh_of o (shp68 k hk) (by omega) (by omega)
theorem q351 {h : aM} {k : Nat} (o : OK h) (hk : k < 6) : sh h (351 + k) = some (100, 31) := sh_of o (shp351 k hk) (by omega) (by omega)
theorem q364 {h : aM} {k : Nat} (o : OK h) (hk : k < 7) : sh h (364 + k) = some (100, 20) := sh_of o (shp364 k hk) (by omega) (by omega)
theorem q373 {h : aM} {k : Nat} (o : OK h) (hk : k < 2) : sh h (373 + k) = some (100, 25) := sh_of o (shp373 k hk) (by omega) (by omega)
theorem q91 {h : aM} {k : Nat} (o : OK h) (hk : k < 40) : sh h (91 + 6 * k) = some (7, 9) := sh_of o (shp91 k hk).1 (by omega) (by omega)
theorem q92 {h : aM} {k : Nat} (o : OK h) (hk : k < 40) : sh h (92 + 6 * k) = some (100, 6) := sh_of o (shp91 k hk).2.1 (by omega) (by omega)
theorem q93 {h : aM} {k : Nat} (o : OK h) (hk : k < 40) : sh h (93 + 6 * k) = some (100, 6) := sh_of o (shp91 k hk).2.2.1 (by omega) (by omega)
theorem q94 {h : aM} {k : Nat} (o : OK h) (hk : k < 40) : sh h (94 + 6 * k) = some (100, 6) := sh_of o (shp91 k hk).2.2.2.1 (by omega) (by omega)
theorem q95 {h : aM} {k : Nat} (o : OK h) (hk : k < 40) : sh h (95 + 6 * k) = some (100, 6) := sh_of o (shp91 k hk).2.2.2.2.1 (by omega) (by omega)
theorem q96 {h : aM} {k : Nat} (o : OK h) (hk : k < 40) : sh h (96 + 6 * k) = some (100, 5) := sh_of o (shp91 k hk).2.2.2.2.2 (by omega) (by omega)
theorem g91_0 {h : aM} {k : Nat} (o : OK h) (hk : k < 40) : gr h (91 + 6 * k) 0 = some (92 + 6 * k) := gr_of o (rft91 k hk).1
theorem g91_1 {h : aM} {k : Nat} (o : OK h) (hk : k < 40) : gr h (91 + 6 * k) 1 = some (93 + 6 * k) := gr_of o (rft91 k hk).2.1
theorem g91_2 {h : aM} {k : Nat} (o : OK h) (hk : k < 40) : gr h (91 + 6 * k) 2 = some (94 + 6 * k) := gr_of o (rft91 k hk).2.2.1
theorem g91_3 {h : aM} {k : Nat} (o : OK h) (hk : k < 40) : gr h (91 + 6 * k) 3 = some (95 + 6 * k) := gr_of o (rft91 k hk).2.2.2.1
theorem g91_4 {h : aM} {k : Nat} (o : OK h) (hk : k < 40) : gr h (91 + 6 * k) 4 = some (96 + 6 * k) := gr_of o (rft91 k hk).2.2.2.2
theorem q375 {h : aM} {k : Nat} (o : OK h) (hk : k < 4) : sh h (375 + 6 * k) = some (3, 7) := sh_of o (shp375 k hk).1 (by omega) (by omega)
theorem q376 {h : aM} {k : Nat} (o : OK h) (hk : k < 4) : sh h (376 + 6 * k) = some (100, 240) := sh_of o (shp375 k hk).2.1 (by omega) (by omega)
theorem q377 {h : aM} {k : Nat} (o : OK h) (hk : k < 4) : sh h (377 + 6 * k) = some (100, 80) := sh_of o (shp375 k hk).2.2.1 (by omega) (by omega)
theorem q378 {h : aM} {k : Nat} (o : OK h) (hk : k < 4) : sh h (378 + 6 * k) = some (100, 80) := sh_of o (shp375 k hk).2.2.2.1 (by omega) (by omega)
theorem q379 {h : aM} {k : Nat} (o : OK h) (hk : k < 4) : sh h (379 + 6 * k) = some (100, 6) := sh_of o (shp375 k hk).2.2.2.2.1 (by omega) (by omega)
theorem q380 {h : aM} {k : Nat} (o : OK h) (hk : k < 4) : sh h (380 + 6 * k) = some (100, 64) := sh_of o (shp375 k hk).2.2.2.2.2 (by omega) (by omega)
theorem g375_0 {h : aM} {k : Nat} (o : OK h) (hk : k < 4) : gr h (375 + 6 * k) 0 = some (376 + 6 * k) := gr_of o (rft375 k hk).1
theorem g375_1 {h : aM} {k : Nat} (o : OK h) (hk : k < 4) : gr h (375 + 6 * k) 1 = some (377 + 6 * k) := gr_of o (rft375 k hk).2.1
theorem g375_2 {h : aM} {k : Nat} (o : OK h) (hk : k < 4) : gr h (375 + 6 * k) 2 = some (378 + 6 * k) := gr_of o (rft375 k hk).2.2.1
theorem g375_5 {h : aM} {k : Nat} (o : OK h) (hk : k < 4) : gr h (375 + 6 * k) 5 = some (379 + 6 * k) := gr_of o (rft375 k hk).2.2.2.1
theorem g375_6 {h : aM} {k : Nat} (o : OK h) (hk : k < 4) : gr h (375 + 6 * k) 6 = some (380 + 6 * k) := gr_of o (rft375 k hk).2.2.2.2
/-- the last cell that may be told: what nobody asks for again -/
def Scr (a k : Nat) : Bool := (a == 33 && (k == 2 || k == 3)) || (Nat.ble 35 a && Nat.ble a 57) || (Nat.ble 342 a && Nat.ble a 357) || (a == 358 && k == 6) || (Nat.ble 362 a && Nat.ble a 370) || (Nat.ble 373 a && Nat.ble a 374) ||
  (a == 379 || a == 380 || a == 385 || a == 386 || a == 391 || a == 392 || a == 397 || a == 398) || (a == 399 && (k == 0 || k == 3 || k == 4 || k == 5 || k == 14 || k == 20 || k == 21 || k == 34 || k == 35 || k == 36 || k == 40)) ||
  (Nat.ble 408 a && Nat.ble a 412) || (Nat.ble 418 a && Nat.ble a 420) || (Nat.ble 425 a && Nat.ble a 427) || Nat.ble 429 a
def Same (h h' : aM) : Prop := OK h' ∧ ∀ a k, Scr a k = false → gi h' a k = gi h a k
theorem Same.refl {h : aM} (o : OK h) : Same h h := ⟨o, fun _ _ _ => rfl⟩
theorem Same.trans {h h' h'' : aM} (a : Same h h') (b : Same h' h'') : Same h h'' := ⟨b.1, fun x k q => (b.2 x k q).trans (a.2 x k q)⟩
theorem Same.wi {h h' : aM} (s : Same h h') {a k : Nat} {x : Int32} (q : Scr a k = true) : Same h (aWi h' a k x) := ⟨s.1, fun b j r => by
  rw [gi_wi, if_neg, s.2 b j r]
  rintro ⟨rfl, rfl⟩
  rw [q] at r
  cases r⟩
theorem Same.wl {h h' : aM} (s : Same h h') {a k : Nat} {x : Int64} : Same h (aWl h' a k x) := ⟨s.1, fun b j r => s.2 b j r⟩
theorem ok_wr {h : aM} (o : OK h) {x : Option Nat} : OK (aWr h 342 15 x) := ⟨o.1, fun a k q => by
  rw [gr_wr, if_neg, o.2 a k q]
  rintro ⟨rfl, rfl⟩
  exact q (by decide)⟩
theorem Same.wr {h h' : aM} (s : Same h h') {x : Option Nat} : Same h (aWr h' 342 15 x) := ⟨ok_wr s.1, fun b j r => s.2 b j r⟩
/-- answers that are 0 or 1 -/
theorem nb0 : narrow .boolean (.int 0) = .int 0 := rfl
theorem nb1 : narrow .boolean (.int 1) = .int 1 := rfl
theorem nI_m1 (a : Nat) : nI (a + 1) + -1 = nI a := by
  rw [← nI_pred a, Int32.sub_eq_add_neg]
theorem gi_wi_n {h : aM} {a k b j : Nat} {x : Int32} (hn : ¬ (b = a ∧ j = k)) : gi (aWi h a k x) b j = gi h b j := if_neg hn
theorem gi_wi_e {h : aM} {a k : Nat} {x : Int32} : gi (aWi h a k x) a k = x := if_pos ⟨rfl, rfl⟩
/-- a row gets new numbers -/
def aRw (h : aM) (a : Nat) (f : Nat → Int32) : aM := (h.1, h.2.1, aRow h.2.2.1 a f, h.2.2.2.1, h.2.2.2.2)
theorem gi_rw {h : aM} {a b j : Nat} {f : Nat → Int32} : gi (aRw h a f) b j = if b = a then f j else gi h b j := rfl
theorem gi_rw_n {h : aM} {a b j : Nat} {f : Nat → Int32} (hn : ¬ b = a) : gi (aRw h a f) b j = gi h b j := if_neg hn
theorem gi_rw_e {h : aM} {a j : Nat} {f : Nat → Int32} : gi (aRw h a f) a j = f j := if_pos rfl
theorem gl_rw {h : aM} {a b j : Nat} {f : Nat → Int32} : gl (aRw h a f) b j = gl h b j := rfl
theorem gr_rw {h : aM} {a b j : Nat} {f : Nat → Int32} : gr (aRw h a f) b j = gr h b j := rfl
theorem sh_rw {h : aM} {a b : Nat} {f : Nat → Int32} : sh (aRw h a f) b = sh h b := rfl
theorem ok_rw {h : aM} {a : Nat} {f : Nat → Int32} (o : OK h) : OK (aRw h a f) := o
theorem aRw_0 {h : aM} {a : Nat} : aRw h a (gi h a) = h := by
  unfold aRw aRow gi
  congr 3
  funext b j
  split
  · rename_i e
    rw [e]
  · rfl
theorem aWi_rw {h : aM} {a k : Nat} {f : Nat → Int32} {x : Int32} : aWi (aRw h a f) a k x = aRw h a (fun j => if j = k then x else f j) := by
  unfold aWi aRw aU aRow
  simp only
  congr 3
  funext b j
  by_cases hb : b = a <;> by_cases hj : j = k <;> simp [hb, hj]
theorem aRw_rw {h : aM} {a : Nat} {f g : Nat → Int32} : aRw (aRw h a f) a g = aRw h a g := by
  unfold aRw aRow
  simp only
  congr 3
  funext b j
  by_cases hb : b = a <;> simp [hb]
theorem aCp_rw {h : aM} {a b n : Nat} : aCp h a b 0 0 n = aRw h b (fun j => if j < n then gi h a j else gi h b j) := by
  unfold aCp aRw va_cpy
  simp only [Nat.zero_add, Nat.zero_le, true_and, Nat.sub_zero]
  rfl
/-- the same of longs -/
def aRl (h : aM) (a : Nat) (f : Nat → Int64) : aM := (h.1, h.2.1, h.2.2.1, aRow h.2.2.2.1 a f, h.2.2.2.2)
theorem gi_rl {h : aM} {a b j : Nat} {f : Nat → Int64} : gi (aRl h a f) b j = gi h b j := rfl
theorem gl_rl {h : aM} {a b j : Nat} {f : Nat → Int64} : gl (aRl h a f) b j = if b = a then f j else gl h b j := rfl
theorem gr_rl {h : aM} {a b j : Nat} {f : Nat → Int64} : gr (aRl h a f) b j = gr h b j := rfl
theorem sh_rl {h : aM} {a b : Nat} {f : Nat → Int64} : sh (aRl h a f) b = sh h b := rfl
theorem ok_rl {h : aM} {a : Nat} {f : Nat → Int64} (o : OK h) : OK (aRl h a f) := o
theorem aRl_0 {h : aM} {a : Nat} : aRl h a (gl h a) = h := by
  unfold aRl aRow gl
  congr 4
  funext b j
  split
  · rename_i e
    rw [e]
  · rfl
theorem aWl_rl {h : aM} {a k : Nat} {f : Nat → Int64} {x : Int64} : aWl (aRl h a f) a k x = aRl h a (fun j => if j = k then x else f j) := by
  unfold aWl aRl aU aRow
  simp only
  congr 4
  funext b j
  by_cases hb : b = a <;> by_cases hj : j = k <;> simp [hb, hj]
theorem vpL {m n : Nat} (hm : (OfNat.ofNat m : Nat) < 2 ^ 31) : vp_in (no_index (OfNat.ofNat m : Int32)) n ↔ (OfNat.ofNat m : Nat) < n := vpn hm
theorem nclL {m : Nat} (hm : (OfNat.ofNat m : Nat) < 2 ^ 31) : (no_index (OfNat.ofNat m : Int32)).toNatClampNeg = (OfNat.ofNat m : Nat) := nI_clamp hm
theorem le32 {a b : Nat} (h : 32 ≤ a + b) : 32 ≤ a + b ↔ True := iff_true_intro h
theorem leLL {a b : Nat} (ha : (OfNat.ofNat a : Nat) < 2 ^ 31) (hb : (OfNat.ofNat b : Nat) < 2 ^ 31) : (no_index (OfNat.ofNat a : Int32)) = (no_index (OfNat.ofNat b : Int32)) ↔ (OfNat.ofNat a : Nat) = (OfNat.ofNat b : Nat) := nI_eq ha hb
theorem leNL {a b : Nat} (h0 : 0 < (OfNat.ofNat a : Nat)) (ha : (OfNat.ofNat a : Nat) < 2 ^ 31) (hb : (OfNat.ofNat b : Nat) < 2 ^ 31) : -(no_index (OfNat.ofNat a : Int32)) = (no_index (OfNat.ofNat b : Int32)) ↔ False := by
  refine iff_false_intro (fun e => ?_)
  have e' : -(nI a) = nI b := e
  rw [eqi, ngi, nI_toInt (n := a) ha, nI_toInt (n := b) hb] at e'
  have h0' : 0 < a := h0
  have ha' : a < 2147483648 := ha
  have hb' : b < 2147483648 := hb
  omega
theorem leLN {a b : Nat} (h0 : 0 < (OfNat.ofNat a : Nat)) (ha : (OfNat.ofNat a : Nat) < 2 ^ 31) (hb : (OfNat.ofNat b : Nat) < 2 ^ 31) : (no_index (OfNat.ofNat b : Int32)) = -(no_index (OfNat.ofNat a : Int32)) ↔ False :=
  ⟨fun e => (leNL h0 ha hb).mp e.symm, False.elim⟩
theorem leNN {a b : Nat} (ha : (OfNat.ofNat a : Nat) < 2 ^ 31) (hb : (OfNat.ofNat b : Nat) < 2 ^ 31) : -(no_index (OfNat.ofNat a : Int32)) = -(no_index (OfNat.ofNat b : Int32)) ↔ (OfNat.ofNat a : Nat) = (OfNat.ofNat b : Nat) := by
  refine ⟨fun e => ?_, fun e => ?_⟩
  · have e' : -(nI a) = -(nI b) := e
    rw [eqi, ngi, ngi, nI_toInt (n := a) ha, nI_toInt (n := b) hb] at e'
    have ha' : a < 2147483648 := ha
    have hb' : b < 2147483648 := hb
    show a = b
    omega
  · have e' : a = b := e
    subst e'
    rfl
theorem kl_q (x : Option Nat) : kl (some (aRf x)) = some (aRf x) := by cases x <;> rfl
theorem nm1g {a : Nat} (ha : a < 2 ^ 31) : -1 ≤ nI a ↔ True := iff_true_intro (Int32.not_lt.mp (fun q => (nm1l ha).mp q))
