-- deps: 9za.pm3
/-! ===== the caught call is as AM has it ===== -/
section PMD
variable {l : Launch} {E : aE} {O : aOl}
theorem lm_run {h h1 : aM} {as : List Value} {v : Value} (hlen : as.length = 4) (hm : Met l aYman (lmW :: aWs) (lmR h h1) (aPc E O h as) (fun _ => aQc E O h1 (some v)) (h1.1.length - h.1.length) (h1.2.1 - h.2.1) (aNw E)) :
    ∀ {p : Program} {e : Env} {R : Room} {s : State} {m : MethodId} {args : Array Value} {below : List Frame} {meth : Method} {c : Code} {H : Heap} {locs : List Loc} {cells slots i pc : Nat} {ls : Array Slot} {rest : List Value},
    p.tables.exec = Jvm.exec → c.maxLocals = ls.size → (∀ w ∈ aWs, w.before args s = true) → s.vm.findClass "GallopDispatchLaw" = some m.cls → Cond.methodLink "GallopDispatchLaw" i aYman ∈ aWs → aKS E O s → aR E O h H → va_S (aNw E) s.heap H locs → (rest.map fun v => v.category).sum ≤ 8 →
    11 ≤ R.frames → aLo 10 ≤ R.locals → cells + (h1.1.length - h.1.length) ≤ R.cells → slots + (h1.2.1 - h.2.1) ≤ R.slots → decode c.code pc = .ok (.invokestatic i, 3) →
    CallRun p l e R s m args below meth c H locs cells slots (h1.1.length - h.1.length) (h1.2.1 - h.2.1) (F0 m pc ls ((as.reverse).map (aTv E) ++ rest)) rest (aQc E O h1 (some v)) (aNw E) := by
  intro p e R s m args below meth c H locs cells slots i pc ls rest hx hml hts hown hlk hK hA hS hcat hf hlo hcl hsl hd
  have hpre : ∀ U : State, U.heap = H → s.WarmedH U.vm → aPc E O h as ((as.map (aTv E)).toArray) U := fun U hU hW => ⟨rfl, hK.kept hW (by rw [hU]; exact hS.1) (fun q q1 q2 => by rw [hU]; exact hS.2.1 q q1 q2), by rw [hU]; exact hA⟩
  have hG : GoodIn aWs (va_wsS "GallopDispatchLaw" i aYman (lmW :: aWs)) := by
    intro w hw
    simp only [va_wsS] at hw
    rcases List.mem_append.mp hw with q | q
    · refine aWs_good w ?_
      simp only [List.mem_cons, List.not_mem_nil, or_false] at q
      rcases q with rfl | rfl | rfl
      · exact hlk
      · exact mWs_ok 21 rfl
      · exact mWs_ok 2 rfl
    · rcases List.mem_cons.mp q with rfl | q
      · exact aWs_good _ (mWs_ok 20 rfl)
      · exact aWs_good _ q
  refine aRunOf (vx_runSW (cc := c.code) (nL := ls.size) (n := 4) (As := as.map (aTv E)) ⟨hx, rfl, hml, hown, hts⟩ hm (vx_cwSW (hh := [(0, 10, 13, 13)]) (bytes := method_3_code) (maxL := 5) (ret := some .int) 4 hts hG rfl rfl rfl ⟨by decide, by decide, by decide +kernel⟩ ⟨by show 10 + 1 ≤ R.frames; omega, ?_⟩) ⟨aPc.blind, hpre⟩ rfl (by rw [List.length_map]; exact hlen) rfl ?_ (lv_room hcat) hd ⟨hcl, hsl⟩)
  · show 8 + (5 + 11) + aLo 9 ≤ R.locals
    unfold aLo at *
    omega
  · show (as.reverse).map (aTv E) ++ rest = (as.map (aTv E)).reverse ++ rest
    rw [List.map_reverse]
theorem aPM_ok (hl : l.stackTraces = false) : aPmOk l E O aPM := by
  intro h as v h1 hp hlen
  unfold aPM at hp
  split at hp
  · next x pA qA o =>
    split at hp
    · next hc =>
      obtain ⟨rfl, rfl, g⟩ := hc
      split at hp
      · next t =>
        cases hp
        have hm := lman_mt (l := l) (E := E) (O := O) hl g t
        refine ⟨?_, Nat.le_add_right _ _, ?_⟩
        · show h.1.length ≤ (h.1 ++ [(99, 6)]).length
          rw [List.length_append]
          exact Nat.le_add_right _ _
        · exact lm_run rfl hm
      · next t =>
        cases hp
        exact ⟨Nat.le_refl _, Nat.le_refl _, lm_run rfl (lman_mn (l := l) (E := E) (O := O) g t)⟩
    · cases hp
  · cases hp
end PMD
