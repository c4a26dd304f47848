-- deps: 9z.pm2
/-! ===== the law's man: it returns, or it catches ===== -/
def lmW : Cond := .codeWith aYman method_3_code 5 (some .int) [(0, 10, 13, 13)]
def lmR (h h1 : aM) : Room := { frames := 10, cells := h1.1.length - h.1.length, slots := h1.2.1 - h.2.1, locals := aLo 9 }
section PMC
variable {l : Launch} {E : aE} {O : aOl} {h : aM} {pA qA : Int32}
theorem lman_mn (g : aPMg h) (t : ¬ aPMt h pA qA) : Met l aYman (lmW :: aWs) (lmR h (aWl h 429 0 (aPMv h pA qA).toInt64)) (aPc E O h [.ref 32, .int pA, .int qA, .ref 429]) (fun _ => aQc E O (aWl h 429 0 (aPMv h pA qA).toInt64) (some (.int 0))) ((aWl h 429 0 (aPMv h pA qA).toInt64).1.length - h.1.length) ((aWl h 429 0 (aPMv h pA qA).toInt64).2.1 - h.2.1) (aNw E) := by
  obtain ⟨n, hr⟩ := lman_n (d := 7) g t
  obtain ⟨-, -, hm⟩ := aSound cd2_ok miM_ok l E O pmN_ok n 9 300 0 _ _ h _ _ hr
  refine aOfWH (cc := method_3_code) (maxL := 5) (ret := some .int) (hh := [(0, 10, 13, 13)]) (by decide +kernel) rfl ?_
  intro p e s m args below meth c s₁ B hml hv
  obtain ⟨rfl, hks, har⟩ := hv
  have hts := atoms_spec (ws := lmW :: aWs) B.pre
  have hL := aLR.entry E [.ref 32, .int pA, .int qA, .ref 429] (n := 5) (Nat.le_of_ble_eq_true rfl)
  rw [lg_entry_eq]
  have hg := hm (y := aYman) (b := method_3_code) (mL := 5) (rt := some .int) rfl (e := e) (below := below) (b0 := h.1.length) (b1 := h.2.1) (R := lmR h (aWl h 429 0 (aPMv h pA qA).toInt64)) B.exec B.bytes hml rfl (fun w hw => hts w (List.mem_cons_of_mem _ hw)) (findClass_of_methodNamed B.named) (name_of_methodNamed B.named B.method).1 hks (Nat.le_refl _) (Nat.le_refl _) (Nat.le_refl _) (Nat.le_refl _) (Nat.le_refl _) (Nat.le_refl _) (aFin_met B.exec B.bytes B.returns B.notSynchronized) _ _ _ hL har (va_S.rf)
  rw [Nat.sub_self, Nat.sub_self] at hg
  exact hg
theorem lman_mt (hl : l.stackTraces = false) (g : aPMg h) (t : aPMt h pA qA) : Met l aYman (lmW :: aWs) (lmR h (aNew h (99, 6))) (aPc E O h [.ref 32, .int pA, .int qA, .ref 429]) (fun _ => aQc E O (aNew h (99, 6)) (some (.int 1))) ((aNew h (99, 6)).1.length - h.1.length) ((aNew h (99, 6)).2.1 - h.2.1) (aNw E) := by
  have n1 : (aNew h (99, 6)).1.length = h.1.length + 1 := by
    show (h.1 ++ [(99, 6)]).length = _
    rw [List.length_append]
    rfl
  have n2 : (aNew h (99, 6)).2.1 = h.2.1 + 6 := rfl
  refine aOfWH (cc := method_3_code) (maxL := 5) (ret := some .int) (hh := [(0, 10, 13, 13)]) (by decide +kernel) rfl ?_
  intro p e s m args below meth c s₁ B hml hv
  obtain ⟨rfl, hks, har⟩ := hv
  have hts := atoms_spec (ws := lmW :: aWs) B.pre
  have hts' : ∀ w ∈ aWs, w.before ([Value.ref 32, .int pA, .int qA, .ref 429].map (aTv E)).toArray s = true := fun w hw => hts w (List.mem_cons_of_mem _ hw)
  have htab : c.exceptionTable.toList = [⟨0, 10, 13, 13⟩] := vx_table (x := aYman) B (hts lmW List.mem_cons_self)
  have hown : s.vm.findClass "GallopDispatchLaw" = some m.cls := findClass_of_methodNamed B.named
  have hL := aLR.entry E [.ref 32, .int pA, .int qA, .ref 429] (n := 5) (Nat.le_of_ble_eq_true rfl)
  rw [lg_entry_eq]
  have cx : CxM p (lmR h (aNew h (99, 6))) s m ([Value.ref 32, .int pA, .int qA, .ref 429].map (aTv E)).toArray meth c E O aYman method_3_code 5 := ⟨B.exec, B.bytes, hml, hts', hown, (name_of_methodNamed B.named B.method).1, hks, by show 1 ≤ 10; decide, by show 100 ≤ aLo 9; decide⟩
  have z1 : h.1.length - h.1.length ≤ (lmR h (aNew h (99, 6))).cells := by
    rw [Nat.sub_self]
    exact Nat.zero_le _
  have z2 : h.2.1 - h.2.1 ≤ (lmR h (aNew h (99, 6))).slots := by
    rw [Nat.sub_self]
    exact Nat.zero_le _
  have tail : aG p l e (lmR h (aNew h (99, 6))) s m ([Value.ref 32, .int pA, .int qA, .ref 429].map (aTv E)).toArray below meth c (MQ below (fun _ => aQc E O (aNew h (99, 6)) (some (.int 1))) ([Value.ref 32, .int pA, .int qA, .ref 429].map (aTv E)).toArray s ((aNew h (99, 6)).1.length - h.1.length) ((aNew h (99, 6)).2.1 - h.2.1) (aNw E)) E O h.1.length h.2.1 15 [none, none, none, none, none] [] (aNew h (99, 6)) := by
    refine cxM_s cx rfl (by omega) (by omega) (Nat.le_refl _) (Nat.le_refl _) mc300_15 rfl rfl rfl ?_
    intro ls H locs hL hA hS
    exact aFin_met (v := some (.int 1)) B.exec B.bytes B.returns B.notSynchronized 16 ls H locs .ireturn mc300_16.1 (rv_i rfl) hA hS
  have five : aG p l e (lmR h (aNew h (99, 6))) s m ([Value.ref 32, .int pA, .int qA, .ref 429].map (aTv E)).toArray below meth c (MQ below (fun _ => aQc E O (aNew h (99, 6)) (some (.int 1))) ([Value.ref 32, .int pA, .int qA, .ref 429].map (aTv E)).toArray s ((aNew h (99, 6)).1.length - h.1.length) ((aNew h (99, 6)).2.1 - h.2.1) (aNw E)) E O h.1.length h.2.1 5 (aArg 5 [.ref 32, .int pA, .int qA, .ref 429]) [.int qA, .int pA, .ref 32, .int 0, .ref 429] h := by
    intro ls H locs hL hA hS
    have hcell : ∃ cellB : Cell, H[aAd E 32]? = some cellB ∧ cellB.vm.isStatics = false ∧ s.vm.findClass "GallopDispatch" = some cellB.cls := by
      obtain ⟨r', e1, -, cell, q1, q2, q3, -⟩ := (hA.2.2.2.1 32 _ (Nat.le_refl _) g.1.1).1 (by decide)
      refine ⟨cell, q1, by rw [q3]; rfl, ?_⟩
      have := (hks.1.1 10 _ e1).2.1
      rw [q2]
      cases e1
      exact this
    have hpre : ∀ U : State, U.heap = H → s.WarmedH U.vm → aPc E O h [.ref 32, .int pA, .int qA] (([Value.ref 32, .int pA, .int qA].map (aTv E)).toArray) U := fun U hU hW => ⟨rfl, hks.kept hW (by rw [hU]; exact hS.1) (fun q q1 q2 => by rw [hU]; exact hS.2.1 q q1 q2), by rw [hU]; exact hA⟩
    have hM := man_met (l := l) (E := E) (O := O) (Qc := va_Qi (S := Unit) (fun _ _ => False) (fun _ _ => True) (aNw E)) g t hl
    have hG : GoodIn aWs (wsV "GallopDispatchLaw" 7 "GallopDispatch" yMan (Cond.code yMan prog_1_method_9_code 3 (some .int) :: aWs)) := by
      intro w hw
      simp only [wsV] at hw
      rcases List.mem_append.mp hw with q | q
      · refine aWs_good w ?_
        simp only [List.mem_cons, List.not_mem_nil, or_false] at q
        rcases q with rfl | rfl | rfl | rfl
        · exact mWs_ok 3 rfl
        · exact mWs_ok 4 rfl
        · exact mWs_ok 5 rfl
        · exact mWs_ok 1 rfl
      · rcases List.mem_cons.mp q with rfl | q
        · exact aWs_good _ (mWs_ok 0 rfl)
        · exact aWs_good _ q
    have hr := vx_runV (R := lmR h (aNew h (99, 6))) (e := e) (below := below) (meth := meth) (locs := locs) (cells := h.1.length - h.1.length) (slots := h.2.1 - h.2.1) (C := "GallopDispatch") (b := aAd E 32) (As := [.int pA, .int qA]) (rest := [.int 0, .ref (aAd E 429)]) (g := F0 m 5 ls ([Value.int qA, .int pA, .ref 32, .int 0, .ref 429].map (aTv E))) (p := p) (m := m) (c := c) (cc := method_3_code) (nL := 5) (s := s) (Ts := aWs) (own := "GallopDispatchLaw") ⟨B.exec, B.bytes, hml, hown, hts'⟩ hM (cwV 2 hts' hG rfl rfl rfl ⟨rfl, by decide, by decide, by decide +kernel⟩ ⟨by show 8 + 1 ≤ 10; decide, by show 8 + (3 + 11) + aLo 7 ≤ aLo 9; decide⟩) ⟨aPc.blind, hcell, hpre⟩ rfl rfl (hL.1) rfl (lv_room (Nat.le_of_ble_eq_true rfl)) mc300_5.1 ⟨by show h.1.length - h.1.length + 1 ≤ (aNew h (99, 6)).1.length - h.1.length; omega, by show h.2.1 - h.2.1 + 6 ≤ (aNew h (99, 6)).2.1 - h.2.1; omega⟩
    refine vx_calli hr hS (fun q _ z => z) (fun q z => z) (fun q _ z => z) ?_ ?_
    · intro C ce q9 u t9 H1 locs1 ht al hpx hbx hz hsm hS1 hce hcv hcl
      obtain ⟨rfl, hA1⟩ := hbx
      obtain ⟨-, -, -, -, -, -, -, -, -, -, -, x1, x2, x3, x4⟩ := hks
      refine vx_catch (own := "GallopDispatchLaw") (name := nsE) hown ⟨0, 10, 13, 13⟩ htab (by decide) (by decide) (hts' _ (mWs_ok 22 rfl)) (va_Nw.use rfl x4) hce hcv hcl ?_
      refine lv_astore B.exec B.bytes (i := 4) (by decide +kernel) hL.has (by show 4 < 5; decide) rfl (fun ls' hL' => ?_)
      have hw := tail ls' H1 locs1 ⟨hL'.1, hL'.2.1, fun i v hi => by
        match i, hi with
        | 0, hi => cases hi
        | 1, hi => cases hi
        | 2, hi => cases hi
        | 3, hi => cases hi
        | 4, hi => cases hi
        | n + 5, hi => cases hi⟩ (by rw [← ht]; exact hA1) hS1
      rw [show (aNew h (99, 6)).1.length - h.1.length = h.1.length - h.1.length + 1 by omega, show (aNew h (99, 6)).2.1 - h.2.1 = h.2.1 - h.2.1 + 6 by omega] at hw
      rw [show (aNew h (99, 6)).1.length - h.1.length = h.1.length - h.1.length + 1 by omega, show (aNew h (99, 6)).2.1 - h.2.1 = h.2.1 - h.2.1 + 6 by omega]
      exact hw
    · intro r u t9 H1 locs1 ht al hp
      exact absurd hp id
  have hg := cxM_s (l := l) (e := e) (below := below) cx rfl (Nat.le_refl _) (Nat.le_refl _) z1 z2 mc300_0 rfl rfl rfl (cxM_s cx rfl (Nat.le_refl _) (Nat.le_refl _) z1 z2 mc300_1 rfl rfl rfl (cxM_s cx rfl (Nat.le_refl _) (Nat.le_refl _) z1 z2 mc300_2 rfl rfl rfl (cxM_s cx rfl (Nat.le_refl _) (Nat.le_refl _) z1 z2 mc300_3 rfl rfl rfl (cxM_s cx rfl (Nat.le_refl _) (Nat.le_refl _) z1 z2 mc300_4 rfl rfl rfl five)))) _ _ _ hL har va_S.rf
  rw [Nat.sub_self, Nat.sub_self] at hg
  exact hg
end PMC
