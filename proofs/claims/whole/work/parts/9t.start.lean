-- deps: 9s.entry
/-! ===== from the law's entry to AM (written by tools/gen_start.py) ===== -/
/-- the parts of what the Statement gives of the start, by their places -/
def nrw : List Cond := flatC (Jvm.Cond.and given_1 narrow_1)
theorem nrw_at {args : Array Value} {s : State} (h : (Jvm.Cond.and given_1 narrow_1).before args s = true) (i : Nat) {w : Cond} (hw : nrw[i]? = some w) : w.before args s = true := flat_of_before _ h w (List.mem_of_getElem? hw)
def oOl (L : Nat) (xs : Nat → Int32) : aOl := (fun i => (oSh L)[i]?, oInt xs, oRef)
theorem oA0 {args : Array Value} {s : State} {A : Nat → Prop} (h : (Jvm.Cond.and given_1 narrow_1).before args s = true) (hA : ∀ a : Nat, a < s.heap.size → ¬ A a) : ∃ t : Nat, (Term.static "GallopDispatch$RideReader" "RULE_USUAL" "[I").eval args s none [] s = some (.ref t) ∧ va_T .int t 5 (fun j => .int ((oRows.getD 0 []).getD j 0)) A s s.heap := by
  refine va_Tof (N := 5) (by decide) (nrw_at h 5 rfl) (va_eqt (nrw_at h 6 rfl)) (fun j hj => ?_) hA
  match j, hj with
  | 0, _ => exact va_eqt (nrw_at h 7 rfl)
  | 1, _ => exact va_eqt (nrw_at h 8 rfl)
  | 2, _ => exact va_eqt (nrw_at h 9 rfl)
  | 3, _ => exact va_eqt (nrw_at h 10 rfl)
  | 4, _ => exact va_eqt (nrw_at h 11 rfl)
  | n + 5, hj => exact absurd hj (by omega)
theorem oA1 {args : Array Value} {s : State} {A : Nat → Prop} (h : (Jvm.Cond.and given_1 narrow_1).before args s = true) (hA : ∀ a : Nat, a < s.heap.size → ¬ A a) : ∃ t : Nat, (Term.static "GallopDispatch$RideReader" "RULE_LEAST" "[I").eval args s none [] s = some (.ref t) ∧ va_T .int t 5 (fun j => .int ((oRows.getD 1 []).getD j 0)) A s s.heap := by
  refine va_Tof (N := 5) (by decide) (nrw_at h 13 rfl) (va_eqt (nrw_at h 14 rfl)) (fun j hj => ?_) hA
  match j, hj with
  | 0, _ => exact va_eqt (nrw_at h 15 rfl)
  | 1, _ => exact va_eqt (nrw_at h 16 rfl)
  | 2, _ => exact va_eqt (nrw_at h 17 rfl)
  | 3, _ => exact va_eqt (nrw_at h 18 rfl)
  | 4, _ => exact va_eqt (nrw_at h 19 rfl)
  | n + 5, hj => exact absurd hj (by omega)
theorem oA2 {args : Array Value} {s : State} {A : Nat → Prop} (h : (Jvm.Cond.and given_1 narrow_1).before args s = true) (hA : ∀ a : Nat, a < s.heap.size → ¬ A a) : ∃ t : Nat, (Term.static "GallopDispatch$RideReader" "RULE_MOST" "[I").eval args s none [] s = some (.ref t) ∧ va_T .int t 5 (fun j => .int ((oRows.getD 2 []).getD j 0)) A s s.heap := by
  refine va_Tof (N := 5) (by decide) (nrw_at h 21 rfl) (va_eqt (nrw_at h 22 rfl)) (fun j hj => ?_) hA
  match j, hj with
  | 0, _ => exact va_eqt (nrw_at h 23 rfl)
  | 1, _ => exact va_eqt (nrw_at h 24 rfl)
  | 2, _ => exact va_eqt (nrw_at h 25 rfl)
  | 3, _ => exact va_eqt (nrw_at h 26 rfl)
  | 4, _ => exact va_eqt (nrw_at h 27 rfl)
  | n + 5, hj => exact absurd hj (by omega)
theorem oA3 {args : Array Value} {s : State} {A : Nat → Prop} (h : (Jvm.Cond.and given_1 narrow_1).before args s = true) (hA : ∀ a : Nat, a < s.heap.size → ¬ A a) : ∃ t : Nat, (Term.static "GallopDispatch$RideReader" "MAN_USUAL" "[I").eval args s none [] s = some (.ref t) ∧ va_T .int t 4 (fun j => .int ((oRows.getD 3 []).getD j 0)) A s s.heap := by
  refine va_Tof (N := 4) (by decide) (nrw_at h 34 rfl) (va_eqt (nrw_at h 35 rfl)) (fun j hj => ?_) hA
  match j, hj with
  | 0, _ => exact va_eqt (nrw_at h 36 rfl)
  | 1, _ => exact va_eqt (nrw_at h 37 rfl)
  | 2, _ => exact va_eqt (nrw_at h 38 rfl)
  | 3, _ => exact va_eqt (nrw_at h 39 rfl)
  | n + 4, hj => exact absurd hj (by omega)
theorem oA4 {args : Array Value} {s : State} {A : Nat → Prop} (h : (Jvm.Cond.and given_1 narrow_1).before args s = true) (hA : ∀ a : Nat, a < s.heap.size → ¬ A a) : ∃ t : Nat, (Term.static "GallopDispatch$RideReader" "MAN_LEAST" "[I").eval args s none [] s = some (.ref t) ∧ va_T .int t 4 (fun j => .int ((oRows.getD 4 []).getD j 0)) A s s.heap := by
  refine va_Tof (N := 4) (by decide) (nrw_at h 41 rfl) (va_eqt (nrw_at h 42 rfl)) (fun j hj => ?_) hA
  match j, hj with
  | 0, _ => exact va_eqt (nrw_at h 43 rfl)
  | 1, _ => exact va_eqt (nrw_at h 44 rfl)
  | 2, _ => exact va_eqt (nrw_at h 45 rfl)
  | 3, _ => exact va_eqt (nrw_at h 46 rfl)
  | n + 4, hj => exact absurd hj (by omega)
theorem oA5 {args : Array Value} {s : State} {A : Nat → Prop} (h : (Jvm.Cond.and given_1 narrow_1).before args s = true) (hA : ∀ a : Nat, a < s.heap.size → ¬ A a) : ∃ t : Nat, (Term.static "GallopDispatch$RideReader" "MAN_MOST" "[I").eval args s none [] s = some (.ref t) ∧ va_T .int t 4 (fun j => .int ((oRows.getD 5 []).getD j 0)) A s s.heap := by
  refine va_Tof (N := 4) (by decide) (nrw_at h 48 rfl) (va_eqt (nrw_at h 49 rfl)) (fun j hj => ?_) hA
  match j, hj with
  | 0, _ => exact va_eqt (nrw_at h 50 rfl)
  | 1, _ => exact va_eqt (nrw_at h 51 rfl)
  | 2, _ => exact va_eqt (nrw_at h 52 rfl)
  | 3, _ => exact va_eqt (nrw_at h 53 rfl)
  | n + 4, hj => exact absurd hj (by omega)
theorem oA6 {args : Array Value} {s : State} {A : Nat → Prop} (h : (Jvm.Cond.and given_1 narrow_1).before args s = true) (hA : ∀ a : Nat, a < s.heap.size → ¬ A a) : ∃ t : Nat, (Term.static "GallopDispatch$RideReader" "FORD_USUAL" "[I").eval args s none [] s = some (.ref t) ∧ va_T .int t 2 (fun j => .int ((oRows.getD 6 []).getD j 0)) A s s.heap := by
  refine va_Tof (N := 2) (by decide) (nrw_at h 55 rfl) (va_eqt (nrw_at h 56 rfl)) (fun j hj => ?_) hA
  match j, hj with
  | 0, _ => exact va_eqt (nrw_at h 57 rfl)
  | 1, _ => exact va_eqt (nrw_at h 58 rfl)
  | n + 2, hj => exact absurd hj (by omega)
theorem oA7 {args : Array Value} {s : State} {A : Nat → Prop} (h : (Jvm.Cond.and given_1 narrow_1).before args s = true) (hA : ∀ a : Nat, a < s.heap.size → ¬ A a) : ∃ t : Nat, (Term.static "GallopDispatch$RideReader" "FORD_LEAST" "[I").eval args s none [] s = some (.ref t) ∧ va_T .int t 2 (fun j => .int ((oRows.getD 7 []).getD j 0)) A s s.heap := by
  refine va_Tof (N := 2) (by decide) (nrw_at h 60 rfl) (va_eqt (nrw_at h 61 rfl)) (fun j hj => ?_) hA
  match j, hj with
  | 0, _ => exact va_eqt (nrw_at h 62 rfl)
  | 1, _ => exact va_eqt (nrw_at h 63 rfl)
  | n + 2, hj => exact absurd hj (by omega)
theorem oA8 {args : Array Value} {s : State} {A : Nat → Prop} (h : (Jvm.Cond.and given_1 narrow_1).before args s = true) (hA : ∀ a : Nat, a < s.heap.size → ¬ A a) : ∃ t : Nat, (Term.static "GallopDispatch$RideReader" "FORD_MOST" "[I").eval args s none [] s = some (.ref t) ∧ va_T .int t 2 (fun j => .int ((oRows.getD 8 []).getD j 0)) A s s.heap := by
  refine va_Tof (N := 2) (by decide) (nrw_at h 65 rfl) (va_eqt (nrw_at h 66 rfl)) (fun j hj => ?_) hA
  match j, hj with
  | 0, _ => exact va_eqt (nrw_at h 67 rfl)
  | 1, _ => exact va_eqt (nrw_at h 68 rfl)
  | n + 2, hj => exact absurd hj (by omega)
def oTm (i : Nat) : Term := match i with
  | 0 => .string "GallopDispatch$RideReader" 73
  | 1 => .string "GallopDispatch$RideReader" 92
  | 2 => .string "GallopDispatch$RideReader" 106
  | _ => .string "GallopDispatch$LawReader" 110
def oLen : List Nat := [5, 4, 2, 6]
theorem oStr {args : Array Value} {s : State} {A : Nat → Prop} (h : (Jvm.Cond.and given_1 narrow_1).before args s = true) (hA : ∀ a : Nat, a < s.heap.size → ¬ A a) : ∃ adK adV : Nat → Nat, vk_S 4 oLen oTxt adK adV A s s.heap ∧ ∀ i : Nat, i < 4 → (oTm i).eval args s none [] s = some (.ref (adK i)) := by
  refine vk_Sof (tm := oTm) (fun i hi => ?_) (fun i hi => ?_) (fun i hi => ?_) (fun i hi => ?_) (fun i hi => ?_) (fun i hi j hj => ?_) (fun i j hi hj hij => ?_) hA
  · match i, hi with
    | 0, _ => decide
    | 1, _ => decide
    | 2, _ => decide
    | 3, _ => decide
    | n + 4, hi => exact absurd hi (by omega)
  · match i, hi with
    | 0, _ => exact nrw_at h 111 rfl
    | 1, _ => exact nrw_at h 120 rfl
    | 2, _ => exact nrw_at h 129 rfl
    | 3, _ => exact nrw_at h 137 rfl
    | n + 4, hi => exact absurd hi (by omega)
  · match i, hi with
    | 0, _ => exact nrw_at h 112 rfl
    | 1, _ => exact nrw_at h 121 rfl
    | 2, _ => exact nrw_at h 130 rfl
    | 3, _ => exact nrw_at h 138 rfl
    | n + 4, hi => exact absurd hi (by omega)
  · match i, hi with
    | 0, _ => exact nrw_at h 113 rfl
    | 1, _ => exact nrw_at h 122 rfl
    | 2, _ => exact nrw_at h 131 rfl
    | 3, _ => exact nrw_at h 139 rfl
    | n + 4, hi => exact absurd hi (by omega)
  · match i, hi with
    | 0, _ => exact nrw_at h 114 rfl
    | 1, _ => exact nrw_at h 123 rfl
    | 2, _ => exact nrw_at h 132 rfl
    | 3, _ => exact nrw_at h 140 rfl
    | n + 4, hi => exact absurd hi (by omega)
  · match i, hi, j, hj with
    | 0, _, 0, _ => exact nrw_at h 115 rfl
    | 0, _, 1, _ => exact nrw_at h 116 rfl
    | 0, _, 2, _ => exact nrw_at h 117 rfl
    | 0, _, 3, _ => exact nrw_at h 118 rfl
    | 0, _, 4, _ => exact nrw_at h 119 rfl
    | 0, _, n + 5, hj => exact absurd (show n + 5 < 5 from hj) (by omega)
    | 1, _, 0, _ => exact nrw_at h 124 rfl
    | 1, _, 1, _ => exact nrw_at h 125 rfl
    | 1, _, 2, _ => exact nrw_at h 126 rfl
    | 1, _, 3, _ => exact nrw_at h 127 rfl
    | 1, _, n + 4, hj => exact absurd (show n + 4 < 4 from hj) (by omega)
    | 2, _, 0, _ => exact nrw_at h 133 rfl
    | 2, _, 1, _ => exact nrw_at h 134 rfl
    | 2, _, n + 2, hj => exact absurd (show n + 2 < 2 from hj) (by omega)
    | 3, _, 0, _ => exact nrw_at h 141 rfl
    | 3, _, 1, _ => exact nrw_at h 142 rfl
    | 3, _, 2, _ => exact nrw_at h 143 rfl
    | 3, _, 3, _ => exact nrw_at h 144 rfl
    | 3, _, 4, _ => exact nrw_at h 145 rfl
    | 3, _, 5, _ => exact nrw_at h 146 rfl
    | 3, _, n + 6, hj => exact absurd (show n + 6 < 6 from hj) (by omega)
    | n + 4, hi, _, _ => exact absurd hi (by omega)
  · match i, j, hi, hj, hij with
    | 0, 0, _, _, hij => exact absurd rfl hij
    | 0, 1, _, _, _ => exact Or.inl (nrw_at h 128 rfl)
    | 0, 2, _, _, _ => exact Or.inl (nrw_at h 135 rfl)
    | 0, 3, _, _, _ => exact Or.inl (nrw_at h 147 rfl)
    | 0, n + 4, _, hj, _ => exact absurd hj (by omega)
    | 1, 0, _, _, _ => exact Or.inr (nrw_at h 128 rfl)
    | 1, 1, _, _, hij => exact absurd rfl hij
    | 1, 2, _, _, _ => exact Or.inl (nrw_at h 136 rfl)
    | 1, 3, _, _, _ => exact Or.inl (nrw_at h 148 rfl)
    | 1, n + 4, _, hj, _ => exact absurd hj (by omega)
    | 2, 0, _, _, _ => exact Or.inr (nrw_at h 135 rfl)
    | 2, 1, _, _, _ => exact Or.inr (nrw_at h 136 rfl)
    | 2, 2, _, _, hij => exact absurd rfl hij
    | 2, 3, _, _, _ => exact Or.inl (nrw_at h 149 rfl)
    | 2, n + 4, _, hj, _ => exact absurd hj (by omega)
    | 3, 0, _, _, _ => exact Or.inr (nrw_at h 147 rfl)
    | 3, 1, _, _, _ => exact Or.inr (nrw_at h 148 rfl)
    | 3, 2, _, _, _ => exact Or.inr (nrw_at h 149 rfl)
    | 3, 3, _, _, hij => exact absurd rfl hij
    | 3, n + 4, _, hj, _ => exact absurd hj (by omega)
    | n + 4, _, hi, _, _ => exact absurd hi (by omega)
theorem inst_all : ∀ (c : Nat) (r : vw_C), aCl[c]? = some r → Cond.instantiable r.1 r.2.2 ∈ aWs
  | 0, r, h => by obtain ⟨r', e1, -, e3, -⟩ := aNT_all (10, 56, 0) (by decide); cases h.symm.trans e1; exact e3
  | 1, r, h => by obtain ⟨r', e1, -, e3, -⟩ := aNT_all (10, 75, 1) (by decide); cases h.symm.trans e1; exact e3
  | 2, r, h => by obtain ⟨r', e1, -, e3, -⟩ := aNT_all (10, 49, 2) (by decide); cases h.symm.trans e1; exact e3
  | 3, r, h => by obtain ⟨r', e1, -, e3, -⟩ := aNT_all (4, 9, 3) (by decide); cases h.symm.trans e1; exact e3
  | 4, r, h => by obtain ⟨r', e1, -, e3, -⟩ := aNT_all (10, 25, 4) (by decide); cases h.symm.trans e1; exact e3
  | 5, r, h => by obtain ⟨r', e1, -, e3, -⟩ := aNT_all (10, 16, 5) (by decide); cases h.symm.trans e1; exact e3
  | 6, r, h => by obtain ⟨r', e1, -, e3, -⟩ := aNT_all (10, 82, 6) (by decide); cases h.symm.trans e1; exact e3
  | 7, r, h => by obtain ⟨r', e1, -, e3, -⟩ := aNT_all (0, 9, 7) (by decide); cases h.symm.trans e1; exact e3
  | 8, r, h => by obtain ⟨r', e1, -, e3, -⟩ := aNT_all (10, 7, 8) (by decide); cases h.symm.trans e1; exact e3
  | 9, r, h => by obtain ⟨r', e1, -, e3, -⟩ := aNT_all (5, 9, 9) (by decide); cases h.symm.trans e1; exact e3
  | 10, r, h => by obtain ⟨r', e1, -, e3, -⟩ := aNT_all (17, 8, 10) (by decide); cases h.symm.trans e1; exact e3
  | 11, r, h => by obtain ⟨r', e1, -, e3, -⟩ := aNT_all (17, 16, 11) (by decide); cases h.symm.trans e1; exact e3
  | n + 12, r, h => by simp [aCl] at h
theorem lT1 {w : Cond} (i : Nat) (h : tables_1_1[i]? = some w) : w ∈ lw_tbl := by
  have hm := List.mem_of_getElem? h
  show w ∈ k2_sels lw_privs ++ tables_1
  refine List.mem_append_right _ ?_
  show w ∈ tables_1_1 ++ (tables_1_2 ++ (tables_1_3 ++ (tables_1_4 ++ (tables_1_5 ++ (tables_1_6 ++ (tables_1_7 ++ tables_1_8))))))
  exact List.mem_append_left _ hm
theorem lT2 {w : Cond} (i : Nat) (h : tables_1_2[i]? = some w) : w ∈ lw_tbl := by
  have hm := List.mem_of_getElem? h
  show w ∈ k2_sels lw_privs ++ tables_1
  refine List.mem_append_right _ ?_
  show w ∈ tables_1_1 ++ (tables_1_2 ++ (tables_1_3 ++ (tables_1_4 ++ (tables_1_5 ++ (tables_1_6 ++ (tables_1_7 ++ tables_1_8))))))
  exact List.mem_append_right _ (List.mem_append_left _ hm)
theorem lT3 {w : Cond} (i : Nat) (h : tables_1_3[i]? = some w) : w ∈ lw_tbl := by
  have hm := List.mem_of_getElem? h
  show w ∈ k2_sels lw_privs ++ tables_1
  refine List.mem_append_right _ ?_
  show w ∈ tables_1_1 ++ (tables_1_2 ++ (tables_1_3 ++ (tables_1_4 ++ (tables_1_5 ++ (tables_1_6 ++ (tables_1_7 ++ tables_1_8))))))
  exact List.mem_append_right _ (List.mem_append_right _ (List.mem_append_left _ hm))
theorem lT4 {w : Cond} (i : Nat) (h : tables_1_4[i]? = some w) : w ∈ lw_tbl := by
  have hm := List.mem_of_getElem? h
  show w ∈ k2_sels lw_privs ++ tables_1
  refine List.mem_append_right _ ?_
  show w ∈ tables_1_1 ++ (tables_1_2 ++ (tables_1_3 ++ (tables_1_4 ++ (tables_1_5 ++ (tables_1_6 ++ (tables_1_7 ++ tables_1_8))))))
  exact List.mem_append_right _ (List.mem_append_right _ (List.mem_append_right _ (List.mem_append_left _ hm)))
theorem lT5 {w : Cond} (i : Nat) (h : tables_1_5[i]? = some w) : w ∈ lw_tbl := by
  have hm := List.mem_of_getElem? h
  show w ∈ k2_sels lw_privs ++ tables_1
  refine List.mem_append_right _ ?_
  show w ∈ tables_1_1 ++ (tables_1_2 ++ (tables_1_3 ++ (tables_1_4 ++ (tables_1_5 ++ (tables_1_6 ++ (tables_1_7 ++ tables_1_8))))))
  exact List.mem_append_right _ (List.mem_append_right _ (List.mem_append_right _ (List.mem_append_right _ (List.mem_append_left _ hm))))
theorem lT6 {w : Cond} (i : Nat) (h : tables_1_6[i]? = some w) : w ∈ lw_tbl := by
  have hm := List.mem_of_getElem? h
  show w ∈ k2_sels lw_privs ++ tables_1
  refine List.mem_append_right _ ?_
  show w ∈ tables_1_1 ++ (tables_1_2 ++ (tables_1_3 ++ (tables_1_4 ++ (tables_1_5 ++ (tables_1_6 ++ (tables_1_7 ++ tables_1_8))))))
  exact List.mem_append_right _ (List.mem_append_right _ (List.mem_append_right _ (List.mem_append_right _ (List.mem_append_right _ (List.mem_append_left _ hm)))))
theorem lT7 {w : Cond} (i : Nat) (h : tables_1_7[i]? = some w) : w ∈ lw_tbl := by
  have hm := List.mem_of_getElem? h
  show w ∈ k2_sels lw_privs ++ tables_1
  refine List.mem_append_right _ ?_
  show w ∈ tables_1_1 ++ (tables_1_2 ++ (tables_1_3 ++ (tables_1_4 ++ (tables_1_5 ++ (tables_1_6 ++ (tables_1_7 ++ tables_1_8))))))
  exact List.mem_append_right _ (List.mem_append_right _ (List.mem_append_right _ (List.mem_append_right _ (List.mem_append_right _ (List.mem_append_right _ (List.mem_append_left _ hm))))))
theorem lT8 {w : Cond} (i : Nat) (h : tables_1_8[i]? = some w) : w ∈ lw_tbl := by
  have hm := List.mem_of_getElem? h
  show w ∈ k2_sels lw_privs ++ tables_1
  refine List.mem_append_right _ ?_
  show w ∈ tables_1_1 ++ (tables_1_2 ++ (tables_1_3 ++ (tables_1_4 ++ (tables_1_5 ++ (tables_1_6 ++ (tables_1_7 ++ tables_1_8))))))
  exact List.mem_append_right _ (List.mem_append_right _ (List.mem_append_right _ (List.mem_append_right _ (List.mem_append_right _ (List.mem_append_right _ (List.mem_append_right _ (hm)))))))
set_option maxHeartbeats 4000000 in
theorem ks_start {b L : Nat} {xs : Nat → Int32} {s : State} (hts : ∀ w ∈ lw_tbl, w.before #[Value.ref b] s = true) (hn : (Jvm.Cond.and given_1 narrow_1).before #[Value.ref b] s = true) (hX : va_X b L xs s s.heap) : ∃ E : aE, E.2.2.2 = s.heap.size ∧ aAd E 0 = b ∧ aKS E (oOl L xs) s ∧ aR E (oOl L xs) (h0 L xs) s.heap := by
  have hts' : ∀ w ∈ aWs, w.before #[Value.ref b] s = true := fun w hw => hts w (List.mem_filter.mp hw).1
  have hA : ∀ a : Nat, a < s.heap.size → ¬ (fun q : Nat => s.heap.size ≤ q) a := fun a h q => by have q' : s.heap.size ≤ a := q; omega
  have hD : ∀ c : Nat, ∃ q : ClassId × (Nat → Nat), ∀ r : vw_C, aCl[c]? = some r → u_Kn s r.1 r.2.1 r.2.2 q.1 q.2 := by
    intro c
    cases hc : aCl[c]? with
    | none => exact ⟨(0, fun _ => 0), fun r e => by cases e⟩
    | some r =>
      obtain ⟨cC, iS, hK⟩ := u_known hts' (aCl_ok c r hc).1 (hts' _ (inst_all c r hc))
      exact ⟨(cC, iS), fun r' e => by cases e; exact hK⟩
  obtain ⟨Dq, hDq⟩ := Classical.axiomOfChoice hD
  obtain ⟨cI, kI, mI, nI, fI, gI⟩ := Cond.arrayClass_spec (first := s) (o := none) (idx := []) (show (Cond.arrayClass .int).before #[Value.ref b] s = true from (hts _ (lT1 53 rfl)))
  obtain ⟨cJ, kJ, mJ, nJ, fJ, gJ⟩ := Cond.arrayClass_spec (first := s) (o := none) (idx := []) (show (Cond.arrayClass .long).before #[Value.ref b] s = true from (hts _ (lT2 62 rfl)))
  obtain ⟨cZ, kZ, mZ, nZ, fZ, gZ⟩ := Cond.arrayClass_spec (first := s) (o := none) (idx := []) (show (Cond.arrayClass .boolean).before #[Value.ref b] s = true from (hts _ (lT2 61 rfl)))
  have hAO := (hts _ (lT1 67 rfl))
  obtain ⟨mA, cA, kA, e1A, -, fA, gA, nA⟩ := arrayOverA_spec hAO
  have hOL := (hts _ (lT2 1 rfl))
  obtain ⟨mL, cL, kL, e1L, -, fL, gL, nL⟩ := Cond.arrayOver_spec hOL
  have hOS := (hts _ (lT1 228 rfl))
  obtain ⟨mS, cS, kS, e1S, -, fS, gS, nS⟩ := Cond.arrayOver_spec hOS
  obtain ⟨t0, v0, T0⟩ := oA0 hn hA
  obtain ⟨t1, v1, T1⟩ := oA1 hn hA
  obtain ⟨t2, v2, T2⟩ := oA2 hn hA
  obtain ⟨t3, v3, T3⟩ := oA3 hn hA
  obtain ⟨t4, v4, T4⟩ := oA4 hn hA
  obtain ⟨t5, v5, T5⟩ := oA5 hn hA
  obtain ⟨t6, v6, T6⟩ := oA6 hn hA
  obtain ⟨t7, v7, T7⟩ := oA7 hn hA
  obtain ⟨t8, v8, T8⟩ := oA8 hn hA
  obtain ⟨adK, adV, hStr, hEv⟩ := oStr hn hA
  obtain ⟨E, hE⟩ : ∃ E : aE, E = ((fun c => (Dq c).1, fun c => (Dq c).2), (fun t => if t = 100 then cI else if t = 101 then cJ else if t = 102 then cZ else if t = 104 then cA else if t = 105 then cL else cS), (fun i => [b, t0, t1, t2, t3, t4, t5, t6, t7, t8, adK 0, adK 1, adK 2, adK 3, adV 0, adV 1, adV 2, adV 3].getD i t0), s.heap.size) := ⟨_, rfl⟩
  have hnw : aNw E = fun q : Nat => s.heap.size ≤ q := by rw [hE]; rfl
  have had : ∀ i, i < 32 → aAd E i = [b, t0, t1, t2, t3, t4, t5, t6, t7, t8, adK 0, adK 1, adK 2, adK 3, adV 0, adV 1, adV 2, adV 3].getD i t0 := fun i hi => by
    unfold aAd
    rw [if_pos (show i < aK from hi), hE]
  have hlt : ∀ {ty : FieldType} {t N : Nat} {f : Nat → Value}, va_T ty t N f (fun q : Nat => s.heap.size ≤ q) s s.heap → t < s.heap.size := fun h => by
    obtain ⟨cell, h1, -⟩ := h
    exact (Array.getElem?_eq_some_iff.mp h1).1
  have TX : va_T .int b L (fun j => .int (xs j)) (fun q : Nat => s.heap.size ≤ q) s s.heap := by
    obtain ⟨scr, x1, x2, x3, x4, x5⟩ := hX
    exact ⟨scr, x1, x2, x3, by rw [x4]; exact Nat.le_refl _, by rw [x4], x5, hA _ (Array.getElem?_eq_some_iff.mp x1).1⟩
  have key : ∀ i, i < 32 → ∃ q : Nat × Nat, (oSh L)[i]? = some q ∧ (q.1 = 12 ∨ q.1 = 100 ∨ q.1 = 103) ∧ aAd E i < s.heap.size ∧ (100 ≤ q.1 → va_T (aTyp q.1) (aAd E i) q.2 (fun j => .int (oInt xs i j)) (fun q : Nat => s.heap.size ≤ q) s s.heap) ∧ (q.1 = 12 → va_O "java/lang/String" (aAd E i) (fun q : Nat => s.heap.size ≤ q) s s.heap ∧ va_OF "java/lang/String" "value" "[B" (aTv E (aRf (oRef i 0))) (aAd E i) (fun q : Nat => s.heap.size ≤ q) s s.heap ∧ va_OF "java/lang/String" "coder" "B" (.int (oInt xs i 1)) (aAd E i) (fun q : Nat => s.heap.size ≤ q) s s.heap) := by
    intro i hi
    match i, hi with
    | 0, hi => rw [had 0 hi]; exact ⟨_, rfl, Or.inr (Or.inl rfl), hlt TX, fun _ => TX, fun z => absurd z (show ¬ (100 : Nat) = 12 by decide)⟩
    | 1, hi => rw [had 1 hi]; exact ⟨_, rfl, by decide, hlt T0, fun _ => T0, fun z => absurd z (by decide)⟩
    | 2, hi => rw [had 2 hi]; exact ⟨_, rfl, by decide, hlt T1, fun _ => T1, fun z => absurd z (by decide)⟩
    | 3, hi => rw [had 3 hi]; exact ⟨_, rfl, by decide, hlt T2, fun _ => T2, fun z => absurd z (by decide)⟩
    | 4, hi => rw [had 4 hi]; exact ⟨_, rfl, by decide, hlt T3, fun _ => T3, fun z => absurd z (by decide)⟩
    | 5, hi => rw [had 5 hi]; exact ⟨_, rfl, by decide, hlt T4, fun _ => T4, fun z => absurd z (by decide)⟩
    | 6, hi => rw [had 6 hi]; exact ⟨_, rfl, by decide, hlt T5, fun _ => T5, fun z => absurd z (by decide)⟩
    | 7, hi => rw [had 7 hi]; exact ⟨_, rfl, by decide, hlt T6, fun _ => T6, fun z => absurd z (by decide)⟩
    | 8, hi => rw [had 8 hi]; exact ⟨_, rfl, by decide, hlt T7, fun _ => T7, fun z => absurd z (by decide)⟩
    | 9, hi => rw [had 9 hi]; exact ⟨_, rfl, by decide, hlt T8, fun _ => T8, fun z => absurd z (by decide)⟩
    | 10, hi => rw [had 10 hi]; refine ⟨_, rfl, by decide, ?_, fun z => absurd z (by decide), fun _ => ⟨(hStr.1 0 (by decide)).1, ?_, (hStr.1 0 (by decide)).2.1⟩⟩
                · obtain ⟨cell, z1, -⟩ := (hStr.1 0 (by decide)).1
                  exact (Array.getElem?_eq_some_iff.mp z1).1
                · show va_OF "java/lang/String" "value" "[B" (.ref (aAd E 14)) _ _ s s.heap
                  rw [had 14 (by decide)]
                  exact (hStr.1 0 (by decide)).2.2.1
    | 11, hi => rw [had 11 hi]; refine ⟨_, rfl, by decide, ?_, fun z => absurd z (by decide), fun _ => ⟨(hStr.1 1 (by decide)).1, ?_, (hStr.1 1 (by decide)).2.1⟩⟩
                · obtain ⟨cell, z1, -⟩ := (hStr.1 1 (by decide)).1
                  exact (Array.getElem?_eq_some_iff.mp z1).1
                · show va_OF "java/lang/String" "value" "[B" (.ref (aAd E 15)) _ _ s s.heap
                  rw [had 15 (by decide)]
                  exact (hStr.1 1 (by decide)).2.2.1
    | 12, hi => rw [had 12 hi]; refine ⟨_, rfl, by decide, ?_, fun z => absurd z (by decide), fun _ => ⟨(hStr.1 2 (by decide)).1, ?_, (hStr.1 2 (by decide)).2.1⟩⟩
                · obtain ⟨cell, z1, -⟩ := (hStr.1 2 (by decide)).1
                  exact (Array.getElem?_eq_some_iff.mp z1).1
                · show va_OF "java/lang/String" "value" "[B" (.ref (aAd E 16)) _ _ s s.heap
                  rw [had 16 (by decide)]
                  exact (hStr.1 2 (by decide)).2.2.1
    | 13, hi => rw [had 13 hi]; refine ⟨_, rfl, by decide, ?_, fun z => absurd z (by decide), fun _ => ⟨(hStr.1 3 (by decide)).1, ?_, (hStr.1 3 (by decide)).2.1⟩⟩
                · obtain ⟨cell, z1, -⟩ := (hStr.1 3 (by decide)).1
                  exact (Array.getElem?_eq_some_iff.mp z1).1
                · show va_OF "java/lang/String" "value" "[B" (.ref (aAd E 17)) _ _ s s.heap
                  rw [had 17 (by decide)]
                  exact (hStr.1 3 (by decide)).2.2.1
    | 14, hi => rw [had 14 hi]; exact ⟨_, rfl, by decide, hlt (hStr.1 0 (by decide)).2.2.2, fun _ => (hStr.1 0 (by decide)).2.2.2, fun z => absurd z (by decide)⟩
    | 15, hi => rw [had 15 hi]; exact ⟨_, rfl, by decide, hlt (hStr.1 1 (by decide)).2.2.2, fun _ => (hStr.1 1 (by decide)).2.2.2, fun z => absurd z (by decide)⟩
    | 16, hi => rw [had 16 hi]; exact ⟨_, rfl, by decide, hlt (hStr.1 2 (by decide)).2.2.2, fun _ => (hStr.1 2 (by decide)).2.2.2, fun z => absurd z (by decide)⟩
    | 17, hi => rw [had 17 hi]; exact ⟨_, rfl, by decide, hlt (hStr.1 3 (by decide)).2.2.2, fun _ => (hStr.1 3 (by decide)).2.2.2, fun z => absurd z (by decide)⟩
    | 18, hi => rw [had 18 hi]; exact ⟨_, rfl, by decide, hlt T0, fun _ => T0, fun z => absurd z (by decide)⟩
    | 19, hi => rw [had 19 hi]; exact ⟨_, rfl, by decide, hlt T0, fun _ => T0, fun z => absurd z (by decide)⟩
    | 20, hi => rw [had 20 hi]; exact ⟨_, rfl, by decide, hlt T0, fun _ => T0, fun z => absurd z (by decide)⟩
    | 21, hi => rw [had 21 hi]; exact ⟨_, rfl, by decide, hlt T0, fun _ => T0, fun z => absurd z (by decide)⟩
    | 22, hi => rw [had 22 hi]; exact ⟨_, rfl, by decide, hlt T0, fun _ => T0, fun z => absurd z (by decide)⟩
    | 23, hi => rw [had 23 hi]; exact ⟨_, rfl, by decide, hlt T0, fun _ => T0, fun z => absurd z (by decide)⟩
    | 24, hi => rw [had 24 hi]; exact ⟨_, rfl, by decide, hlt T0, fun _ => T0, fun z => absurd z (by decide)⟩
    | 25, hi => rw [had 25 hi]; exact ⟨_, rfl, by decide, hlt T0, fun _ => T0, fun z => absurd z (by decide)⟩
    | 26, hi => rw [had 26 hi]; exact ⟨_, rfl, by decide, hlt T0, fun _ => T0, fun z => absurd z (by decide)⟩
    | 27, hi => rw [had 27 hi]; exact ⟨_, rfl, by decide, hlt T0, fun _ => T0, fun z => absurd z (by decide)⟩
    | 28, hi => rw [had 28 hi]; exact ⟨_, rfl, by decide, hlt T0, fun _ => T0, fun z => absurd z (by decide)⟩
    | 29, hi => rw [had 29 hi]; exact ⟨_, rfl, by decide, hlt T0, fun _ => T0, fun z => absurd z (by decide)⟩
    | 30, hi => rw [had 30 hi]; exact ⟨_, rfl, by decide, hlt T0, fun _ => T0, fun z => absurd z (by decide)⟩
    | 31, hi => rw [had 31 hi]; exact ⟨_, rfl, by decide, hlt T0, fun _ => T0, fun z => absurd z (by decide)⟩
    | n + 32, hi => exact absurd hi (by omega)
  refine ⟨E, by rw [hE], by rw [had 0 (by decide)]; rfl, ⟨⟨?_, ?_⟩, by rw [hE]; exact Nat.le_refl _, ?_, ?_, ?_, ?_, ?_, ?_, hOL, hOS, hAO, ?_⟩, ?_⟩
  · intro c r hc
    rw [hE]
    exact hDq c r hc
  · intro k q hk
    have hA100 : ∀ (c : ClassId) (kk : Class) (mm : ClassId) (ty : FieldType), s.vm.classes[c]? = some kk → kk.kind = .array mm ty → ArrOfT s c ty := fun c kk mm ty h1 h2 n z => ⟨(fun _ h => by cases h), kk, h1, mm, h2⟩
    rw [hE] at hk
    match k, hk with
    | 0, hk => cases hk; exact ⟨hA100 _ _ _ _ fI gI, nI⟩
    | 1, hk => cases hk; exact ⟨hA100 _ _ _ _ fJ gJ, nJ⟩
    | 2, hk => cases hk; exact ⟨hA100 _ _ _ _ fZ gZ, nZ⟩
    | 3, hk => cases hk; exact ⟨hA100 _ _ _ _ fA gA, nA⟩
    | 4, hk => cases hk; exact ⟨hA100 _ _ _ _ fL gL, kL, mL, fL, gL, e1L, nL⟩
    | 5, hk => cases hk; exact ⟨hA100 _ _ _ _ fS gS, kS, mS, fS, gS, e1S, nS⟩
    | n + 6, hk => cases hk
  · intro i sh hi hs
    obtain ⟨q, q1, q2, q3, -⟩ := key i hi
    cases q1.symm.trans hs
    rw [hnw]
    exact ⟨q2, hA _ q3⟩
  · intro i sh hi hs h100
    obtain ⟨q, q1, q2, q3, q4, -⟩ := key i hi
    cases q1.symm.trans hs
    rw [hnw]
    exact q4 h100
  · intro i sh hi hs h12
    obtain ⟨q, q1, q2, q3, q4, q5⟩ := key i hi
    cases q1.symm.trans hs
    rw [hnw]
    exact q5 h12
  · rw [hnw]
    exact List.forall_mem_cons.mpr ⟨(by show va_Z _ _ _ (.ref (aAd E 1)) _ s s.heap; rw [had 1 (by decide)]; exact va_Zof (hts _ (lT2 188 rfl)) (hts _ (lT1 3 rfl)) v0 hA), List.forall_mem_cons.mpr ⟨(by show va_Z _ _ _ (.ref (aAd E 2)) _ s s.heap; rw [had 2 (by decide)]; exact va_Zof (hts _ (lT2 212 rfl)) (hts _ (lT1 3 rfl)) v1 hA), List.forall_mem_cons.mpr ⟨(by show va_Z _ _ _ (.ref (aAd E 3)) _ s s.heap; rw [had 3 (by decide)]; exact va_Zof (hts _ (lT2 214 rfl)) (hts _ (lT1 3 rfl)) v2 hA), List.forall_mem_cons.mpr ⟨(by show va_Z _ _ _ (.ref (aAd E 4)) _ s s.heap; rw [had 4 (by decide)]; exact va_Zof (hts _ (lT3 85 rfl)) (hts _ (lT1 3 rfl)) v3 hA), List.forall_mem_cons.mpr ⟨(by show va_Z _ _ _ (.ref (aAd E 5)) _ s s.heap; rw [had 5 (by decide)]; exact va_Zof (hts _ (lT3 88 rfl)) (hts _ (lT1 3 rfl)) v4 hA), List.forall_mem_cons.mpr ⟨(by show va_Z _ _ _ (.ref (aAd E 6)) _ s s.heap; rw [had 6 (by decide)]; exact va_Zof (hts _ (lT3 90 rfl)) (hts _ (lT1 3 rfl)) v5 hA), List.forall_mem_cons.mpr ⟨(by show va_Z _ _ _ (.ref (aAd E 7)) _ s s.heap; rw [had 7 (by decide)]; exact va_Zof (hts _ (lT3 92 rfl)) (hts _ (lT1 3 rfl)) v6 hA), List.forall_mem_cons.mpr ⟨(by show va_Z _ _ _ (.ref (aAd E 8)) _ s s.heap; rw [had 8 (by decide)]; exact va_Zof (hts _ (lT3 95 rfl)) (hts _ (lT1 3 rfl)) v7 hA), List.forall_mem_cons.mpr ⟨(by show va_Z _ _ _ (.ref (aAd E 9)) _ s s.heap; rw [had 9 (by decide)]; exact va_Zof (hts _ (lT3 97 rfl)) (hts _ (lT1 3 rfl)) v8 hA), List.forall_mem_cons.mpr ⟨(va_Zof (hts _ (lT2 228 rfl)) (hts _ (lT1 15 rfl)) (va_eqi (nrw_at hn 28 rfl)) hA), List.forall_mem_nil _⟩⟩⟩⟩⟩⟩⟩⟩⟩⟩
  · exact List.forall_mem_cons.mpr ⟨(by show vk_R _ _ _ (aAd E 10) s; rw [had 10 (by decide)]; exact vk_R.of (hts _ (lT2 210 rfl)) (hEv 0 (by decide))), List.forall_mem_cons.mpr ⟨(by show vk_R _ _ _ (aAd E 11) s; rw [had 11 (by decide)]; exact vk_R.of (hts _ (lT3 86 rfl)) (hEv 1 (by decide))), List.forall_mem_cons.mpr ⟨(by show vk_R _ _ _ (aAd E 12) s; rw [had 12 (by decide)]; exact vk_R.of (hts _ (lT3 93 rfl)) (hEv 2 (by decide))), List.forall_mem_cons.mpr ⟨(by show vk_R _ _ _ (aAd E 13) s; rw [had 13 (by decide)]; exact vk_R.of (hts _ (lT3 168 rfl)) (hEv 3 (by decide))), List.forall_mem_nil _⟩⟩⟩⟩
  · intro w hw
    obtain ⟨h1, h2⟩ := List.mem_filter.mp hw
    have h3 := hts w (List.mem_append_right _ h1)
    cases w <;> first | exact va_Nw.of rfl h3 | (simp [isNest] at h2)
  · rw [show aXt E s = (vx_Zq Bundle.tN "UNASSIGNED_STACK" Bundle.steD (aNw E) s s.heap ∧ vx_Zq Bundle.tN "SUPPRESSED_SENTINEL" Bundle.listD (aNw E) s s.heap ∧ (∃ sa, vk_R "GallopDispatch" 186 "no such MAN, or no such thing of him" sa s) ∧ va_Nw (.castable "java/util/NoSuchElementException" "java/util/NoSuchElementException") s) from rfl, hnw]
    obtain ⟨sa, -, -, -, hsa, -⟩ := Cond.exactly_spec (first := s) (o := none) (idx := []) (nrw_at hn 150 rfl)
    exact ⟨vx_Zqof (hts _ (lT5 232 rfl)) (hts _ (lT1 20 rfl)) (nrw_at hn 69 rfl) hA, vx_Zqof (hts _ (lT5 234 rfl)) (hts _ (lT1 20 rfl)) (nrw_at hn 70 rfl) hA, ⟨sa, vk_R.of (hts _ (lT6 4 rfl)) hsa⟩, va_Nw.of rfl (hts _ (lT5 207 rfl))⟩
  · have hl32 : (oSh L).length = 32 := by simp [oSh]
    refine ⟨by show aK ≤ (oSh L).length; rw [hl32]; exact Nat.le_refl _, by rw [hE]; show s.heap.size + aK = s.heap.size + (oSh L).length; rw [hl32]; rfl, fun i hi => ⟨rfl, fun j => ?_⟩, fun i sh hi hs => ?_, fun i sh hi hs => ?_⟩
    · have hi' : i < 32 := hi
      exact ⟨by show (if i < 32 then oInt xs i j else 0) = _; rw [if_pos hi']; rfl, by show (if i < 32 then oRef i j else none) = _; rw [if_pos hi']; rfl⟩
    · have h9 := (List.getElem?_eq_some_iff.mp hs).1
      have h8 : i < (oSh L).length := h9
      rw [hl32] at h8
      have hi' : 32 ≤ i := hi
      omega
    · have h9 := (List.getElem?_eq_some_iff.mp hs).1
      have h8 : i < (oSh L).length := h9
      rw [hl32] at h8
      have hi' : 32 ≤ i := hi
      omega
/-- the law's end -/
theorem aFin_law {p : Program} {l : Launch} {e : Env} {s : State} {m : MethodId} {below : List Frame} {meth : Method} {c : Code} {b : Nat} {E : aE} {O : aOl} {h' : aM} (hx : p.tables.exec = Jvm.exec) (hb : c.code = code) (hr : meth.sig.returnType = ret) (hlocks : meth.locks = false) (hE : E.2.2.2 = s.heap.size) (hc : h'.1.length ≤ 601056) (hs : h'.2.1 ≤ 7293034) :
    aFin p l e room_1 s m #[Value.ref b] below meth c (lw_Z below #[Value.ref b] s) E O 32 0 code (some .boolean) (some (.int 1)) h' := by
  intro pc ls H locs ins hd hv hA hS
  obtain ⟨-, h1⟩ := aRetV_inv hv
  rcases h1 with ⟨rfl, -⟩ | ⟨rfl, h2, -⟩ | ⟨rfl, -, h2⟩ | ⟨rfl, h2, -⟩
  · refine W.widen (k := 601024) (n := 7293034) (by omega) (by omega) ?_
    refine va_forget (fun q hq => ?_) (lw_ret hx hb hr hlocks hd)
    have := hS.2.2 q hq
    unfold aNw at this
    rw [hE] at this
    exact this
  · cases h2
  · rcases h2 with h2 | ⟨_, h2⟩ <;> cases h2
  · cases h2
theorem whole_of (hG : aGoal) {p : Program} {e : Env} {s : State} {m : MethodId} {below : List Frame} {meth : Method} {c : Code} (l : Launch) (hPm : ∀ E O, aPmOk l E O aPM) {b L : Nat} {xs : Nat → Int32} (hL : L ≤ 3072) (hnm : meth.name = x.name) (C0 : lw_At p s m meth c b L xs) : W p l e room_1 s m #[Value.ref b] below meth c s.heap [] 0 0 (lw_Z below #[Value.ref b] s) (entryFrame m ([Value.ref b] : List Value).toArray 7) := by
  obtain ⟨hx, hb, hr, hml, hown, hts, hX, hbs, hlocks, hn⟩ := C0
  obtain ⟨n, d, h', hd, hrun, hc, hs⟩ := hG L xs hL
  obtain ⟨E, e1, e2, hK, hA⟩ := ks_start hts hn hX
  obtain ⟨-, -, hM⟩ := aSound aCD_ok aMI_ok l E (oOl L xs) (hPm E _) n d 300 0 _ _ (h0 L xs) _ h' hrun
  have hts' : ∀ w ∈ aWs, w.before #[Value.ref b] s = true := fun w hw => hts w (List.mem_filter.mp hw).1
  have hl32 : (h0 L xs).1.length = 32 := by simp [h0, oSh]
  have hg := hM (y := x) (b := code) (mL := 7) (rt := some .boolean) rfl (e := e) (below := below) (R := room_1) (args := #[Value.ref b]) (s := s) (meth := meth) (Q := lw_Z below #[Value.ref b] s) (b0 := 32) (b1 := 0) hx hb hml rfl hts' hown hnm hK (by rw [hl32]; exact Nat.le_refl _) (Nat.le_refl _) (by show _ ≤ 601024; omega) (by show _ ≤ 7293034; omega) (by show _ ≤ 2048; omega) (by show aLo d ≤ 84000; unfold aLo; omega) (aFin_law hx hb hr hlocks e1 hc hs)
  have hLR := aLR.entry E [.ref 0] (n := 7) (by decide)
  have hw := hg _ _ _ hLR hA va_S.rf
  rw [hl32] at hw
  rw [lg_entry_eq]
  have e3 : [Value.ref b] = [Value.ref 0].map (aTv E) := by simp [aTv, e2]
  rw [show lg_sl [Value.ref b] = lg_sl ([Value.ref 0].map (aTv E)) from congrArg lg_sl e3]
  exact hw
