/-! the words of the tables, by their places (written by tools/gen_chk.py) -/
theorem mT_of {w : Cond} (h : w ∈ lw_tbl) (g : goodWord w = true) : w ∈ aWs := List.mem_filter.mpr ⟨h, g⟩
theorem mT1 {w : Cond} (i : Nat) (h : tables_1_1[i]? = some w) (g : goodWord w = true) : w ∈ aWs := by
  have hm := List.mem_of_getElem? h
  refine mT_of ?_ g
  show w ∈ k2_sels lw_privs ++ tables_1
  refine List.mem_append_right _ ?_
  show w ∈ tables_1_1 ++ (tables_1_2 ++ (tables_1_3 ++ (tables_1_4 ++ (tables_1_5 ++ (tables_1_6 ++ (tables_1_7 ++ tables_1_8))))))
  exact List.mem_append_left _ hm
theorem nT1 {w : Cond} (i : Nat) (h : tables_1_1[i]? = some w) (g : isNest w = true) : w ∈ aNests := by
  have hm := List.mem_of_getElem? h
  refine List.mem_filter.mpr ⟨?_, g⟩
  show w ∈ tables_1_1 ++ (tables_1_2 ++ (tables_1_3 ++ (tables_1_4 ++ (tables_1_5 ++ (tables_1_6 ++ (tables_1_7 ++ tables_1_8))))))
  exact List.mem_append_left _ hm
theorem mT2 {w : Cond} (i : Nat) (h : tables_1_2[i]? = some w) (g : goodWord w = true) : w ∈ aWs := by
  have hm := List.mem_of_getElem? h
  refine mT_of ?_ g
  show w ∈ k2_sels lw_privs ++ tables_1
  refine List.mem_append_right _ ?_
  show w ∈ tables_1_1 ++ (tables_1_2 ++ (tables_1_3 ++ (tables_1_4 ++ (tables_1_5 ++ (tables_1_6 ++ (tables_1_7 ++ tables_1_8))))))
  exact List.mem_append_right _ (List.mem_append_left _ hm)
theorem nT2 {w : Cond} (i : Nat) (h : tables_1_2[i]? = some w) (g : isNest w = true) : w ∈ aNests := by
  have hm := List.mem_of_getElem? h
  refine List.mem_filter.mpr ⟨?_, g⟩
  show w ∈ tables_1_1 ++ (tables_1_2 ++ (tables_1_3 ++ (tables_1_4 ++ (tables_1_5 ++ (tables_1_6 ++ (tables_1_7 ++ tables_1_8))))))
  exact List.mem_append_right _ (List.mem_append_left _ hm)
theorem mT3 {w : Cond} (i : Nat) (h : tables_1_3[i]? = some w) (g : goodWord w = true) : w ∈ aWs := by
  have hm := List.mem_of_getElem? h
  refine mT_of ?_ g
  show w ∈ k2_sels lw_privs ++ tables_1
  refine List.mem_append_right _ ?_
  show w ∈ tables_1_1 ++ (tables_1_2 ++ (tables_1_3 ++ (tables_1_4 ++ (tables_1_5 ++ (tables_1_6 ++ (tables_1_7 ++ tables_1_8))))))
  exact List.mem_append_right _ (List.mem_append_right _ (List.mem_append_left _ hm))
theorem nT3 {w : Cond} (i : Nat) (h : tables_1_3[i]? = some w) (g : isNest w = true) : w ∈ aNests := by
  have hm := List.mem_of_getElem? h
  refine List.mem_filter.mpr ⟨?_, g⟩
  show w ∈ tables_1_1 ++ (tables_1_2 ++ (tables_1_3 ++ (tables_1_4 ++ (tables_1_5 ++ (tables_1_6 ++ (tables_1_7 ++ tables_1_8))))))
  exact List.mem_append_right _ (List.mem_append_right _ (List.mem_append_left _ hm))
theorem mT4 {w : Cond} (i : Nat) (h : tables_1_4[i]? = some w) (g : goodWord w = true) : w ∈ aWs := by
  have hm := List.mem_of_getElem? h
  refine mT_of ?_ g
  show w ∈ k2_sels lw_privs ++ tables_1
  refine List.mem_append_right _ ?_
  show w ∈ tables_1_1 ++ (tables_1_2 ++ (tables_1_3 ++ (tables_1_4 ++ (tables_1_5 ++ (tables_1_6 ++ (tables_1_7 ++ tables_1_8))))))
  exact List.mem_append_right _ (List.mem_append_right _ (List.mem_append_right _ (List.mem_append_left _ hm)))
theorem nT4 {w : Cond} (i : Nat) (h : tables_1_4[i]? = some w) (g : isNest w = true) : w ∈ aNests := by
  have hm := List.mem_of_getElem? h
  refine List.mem_filter.mpr ⟨?_, g⟩
  show w ∈ tables_1_1 ++ (tables_1_2 ++ (tables_1_3 ++ (tables_1_4 ++ (tables_1_5 ++ (tables_1_6 ++ (tables_1_7 ++ tables_1_8))))))
  exact List.mem_append_right _ (List.mem_append_right _ (List.mem_append_right _ (List.mem_append_left _ hm)))
theorem mT5 {w : Cond} (i : Nat) (h : tables_1_5[i]? = some w) (g : goodWord w = true) : w ∈ aWs := by
  have hm := List.mem_of_getElem? h
  refine mT_of ?_ g
  show w ∈ k2_sels lw_privs ++ tables_1
  refine List.mem_append_right _ ?_
  show w ∈ tables_1_1 ++ (tables_1_2 ++ (tables_1_3 ++ (tables_1_4 ++ (tables_1_5 ++ (tables_1_6 ++ (tables_1_7 ++ tables_1_8))))))
  exact List.mem_append_right _ (List.mem_append_right _ (List.mem_append_right _ (List.mem_append_right _ (List.mem_append_left _ hm))))
theorem nT5 {w : Cond} (i : Nat) (h : tables_1_5[i]? = some w) (g : isNest w = true) : w ∈ aNests := by
  have hm := List.mem_of_getElem? h
  refine List.mem_filter.mpr ⟨?_, g⟩
  show w ∈ tables_1_1 ++ (tables_1_2 ++ (tables_1_3 ++ (tables_1_4 ++ (tables_1_5 ++ (tables_1_6 ++ (tables_1_7 ++ tables_1_8))))))
  exact List.mem_append_right _ (List.mem_append_right _ (List.mem_append_right _ (List.mem_append_right _ (List.mem_append_left _ hm))))
theorem mT6 {w : Cond} (i : Nat) (h : tables_1_6[i]? = some w) (g : goodWord w = true) : w ∈ aWs := by
  have hm := List.mem_of_getElem? h
  refine mT_of ?_ g
  show w ∈ k2_sels lw_privs ++ tables_1
  refine List.mem_append_right _ ?_
  show w ∈ tables_1_1 ++ (tables_1_2 ++ (tables_1_3 ++ (tables_1_4 ++ (tables_1_5 ++ (tables_1_6 ++ (tables_1_7 ++ tables_1_8))))))
  exact List.mem_append_right _ (List.mem_append_right _ (List.mem_append_right _ (List.mem_append_right _ (List.mem_append_right _ (List.mem_append_left _ hm)))))
theorem nT6 {w : Cond} (i : Nat) (h : tables_1_6[i]? = some w) (g : isNest w = true) : w ∈ aNests := by
  have hm := List.mem_of_getElem? h
  refine List.mem_filter.mpr ⟨?_, g⟩
  show w ∈ tables_1_1 ++ (tables_1_2 ++ (tables_1_3 ++ (tables_1_4 ++ (tables_1_5 ++ (tables_1_6 ++ (tables_1_7 ++ tables_1_8))))))
  exact List.mem_append_right _ (List.mem_append_right _ (List.mem_append_right _ (List.mem_append_right _ (List.mem_append_right _ (List.mem_append_left _ hm)))))
theorem mT7 {w : Cond} (i : Nat) (h : tables_1_7[i]? = some w) (g : goodWord w = true) : w ∈ aWs := by
  have hm := List.mem_of_getElem? h
  refine mT_of ?_ g
  show w ∈ k2_sels lw_privs ++ tables_1
  refine List.mem_append_right _ ?_
  show w ∈ tables_1_1 ++ (tables_1_2 ++ (tables_1_3 ++ (tables_1_4 ++ (tables_1_5 ++ (tables_1_6 ++ (tables_1_7 ++ tables_1_8))))))
  exact List.mem_append_right _ (List.mem_append_right _ (List.mem_append_right _ (List.mem_append_right _ (List.mem_append_right _ (List.mem_append_right _ (List.mem_append_left _ hm))))))
theorem nT7 {w : Cond} (i : Nat) (h : tables_1_7[i]? = some w) (g : isNest w = true) : w ∈ aNests := by
  have hm := List.mem_of_getElem? h
  refine List.mem_filter.mpr ⟨?_, g⟩
  show w ∈ tables_1_1 ++ (tables_1_2 ++ (tables_1_3 ++ (tables_1_4 ++ (tables_1_5 ++ (tables_1_6 ++ (tables_1_7 ++ tables_1_8))))))
  exact List.mem_append_right _ (List.mem_append_right _ (List.mem_append_right _ (List.mem_append_right _ (List.mem_append_right _ (List.mem_append_right _ (List.mem_append_left _ hm))))))
theorem mT8 {w : Cond} (i : Nat) (h : tables_1_8[i]? = some w) (g : goodWord w = true) : w ∈ aWs := by
  have hm := List.mem_of_getElem? h
  refine mT_of ?_ g
  show w ∈ k2_sels lw_privs ++ tables_1
  refine List.mem_append_right _ ?_
  show w ∈ tables_1_1 ++ (tables_1_2 ++ (tables_1_3 ++ (tables_1_4 ++ (tables_1_5 ++ (tables_1_6 ++ (tables_1_7 ++ tables_1_8))))))
  exact List.mem_append_right _ (List.mem_append_right _ (List.mem_append_right _ (List.mem_append_right _ (List.mem_append_right _ (List.mem_append_right _ (List.mem_append_right _ (hm)))))))
theorem nT8 {w : Cond} (i : Nat) (h : tables_1_8[i]? = some w) (g : isNest w = true) : w ∈ aNests := by
  have hm := List.mem_of_getElem? h
  refine List.mem_filter.mpr ⟨?_, g⟩
  show w ∈ tables_1_1 ++ (tables_1_2 ++ (tables_1_3 ++ (tables_1_4 ++ (tables_1_5 ++ (tables_1_6 ++ (tables_1_7 ++ tables_1_8))))))
  exact List.mem_append_right _ (List.mem_append_right _ (List.mem_append_right _ (List.mem_append_right _ (List.mem_append_right _ (List.mem_append_right _ (List.mem_append_right _ (hm)))))))
theorem mT101 {w : Cond} (i : Nat) (h : lw_privs_1[i]?.map (fun q => Cond.selects q.1.cls q.1 q.1) = some w) (g : goodWord w = true) : w ∈ aWs := by
  obtain ⟨q, hq, e⟩ := Option.map_eq_some_iff.mp h
  have hm := List.mem_of_getElem? hq
  refine mT_of ?_ g
  show w ∈ k2_sels lw_privs ++ tables_1
  refine List.mem_append_left _ ?_
  unfold k2_sels
  refine List.mem_map.mpr ⟨q, ?_, e⟩
  show q ∈ lw_privs_1 ++ (lw_privs_2 ++ (lw_privs_3 ++ (lw_privs_4 ++ (lw_privs_5 ++ (lw_privs_6 ++ (lw_privs_7))))))
  exact List.mem_append_left _ hm
theorem mT102 {w : Cond} (i : Nat) (h : lw_privs_2[i]?.map (fun q => Cond.selects q.1.cls q.1 q.1) = some w) (g : goodWord w = true) : w ∈ aWs := by
  obtain ⟨q, hq, e⟩ := Option.map_eq_some_iff.mp h
  have hm := List.mem_of_getElem? hq
  refine mT_of ?_ g
  show w ∈ k2_sels lw_privs ++ tables_1
  refine List.mem_append_left _ ?_
  unfold k2_sels
  refine List.mem_map.mpr ⟨q, ?_, e⟩
  show q ∈ lw_privs_1 ++ (lw_privs_2 ++ (lw_privs_3 ++ (lw_privs_4 ++ (lw_privs_5 ++ (lw_privs_6 ++ (lw_privs_7))))))
  exact List.mem_append_right _ (List.mem_append_left _ hm)
theorem mT103 {w : Cond} (i : Nat) (h : lw_privs_3[i]?.map (fun q => Cond.selects q.1.cls q.1 q.1) = some w) (g : goodWord w = true) : w ∈ aWs := by
  obtain ⟨q, hq, e⟩ := Option.map_eq_some_iff.mp h
  have hm := List.mem_of_getElem? hq
  refine mT_of ?_ g
  show w ∈ k2_sels lw_privs ++ tables_1
  refine List.mem_append_left _ ?_
  unfold k2_sels
  refine List.mem_map.mpr ⟨q, ?_, e⟩
  show q ∈ lw_privs_1 ++ (lw_privs_2 ++ (lw_privs_3 ++ (lw_privs_4 ++ (lw_privs_5 ++ (lw_privs_6 ++ (lw_privs_7))))))
  exact List.mem_append_right _ (List.mem_append_right _ (List.mem_append_left _ hm))
theorem mT104 {w : Cond} (i : Nat) (h : lw_privs_4[i]?.map (fun q => Cond.selects q.1.cls q.1 q.1) = some w) (g : goodWord w = true) : w ∈ aWs := by
  obtain ⟨q, hq, e⟩ := Option.map_eq_some_iff.mp h
  have hm := List.mem_of_getElem? hq
  refine mT_of ?_ g
  show w ∈ k2_sels lw_privs ++ tables_1
  refine List.mem_append_left _ ?_
  unfold k2_sels
  refine List.mem_map.mpr ⟨q, ?_, e⟩
  show q ∈ lw_privs_1 ++ (lw_privs_2 ++ (lw_privs_3 ++ (lw_privs_4 ++ (lw_privs_5 ++ (lw_privs_6 ++ (lw_privs_7))))))
  exact List.mem_append_right _ (List.mem_append_right _ (List.mem_append_right _ (List.mem_append_left _ hm)))
theorem mT105 {w : Cond} (i : Nat) (h : lw_privs_5[i]?.map (fun q => Cond.selects q.1.cls q.1 q.1) = some w) (g : goodWord w = true) : w ∈ aWs := by
  obtain ⟨q, hq, e⟩ := Option.map_eq_some_iff.mp h
  have hm := List.mem_of_getElem? hq
  refine mT_of ?_ g
  show w ∈ k2_sels lw_privs ++ tables_1
  refine List.mem_append_left _ ?_
  unfold k2_sels
  refine List.mem_map.mpr ⟨q, ?_, e⟩
  show q ∈ lw_privs_1 ++ (lw_privs_2 ++ (lw_privs_3 ++ (lw_privs_4 ++ (lw_privs_5 ++ (lw_privs_6 ++ (lw_privs_7))))))
  exact List.mem_append_right _ (List.mem_append_right _ (List.mem_append_right _ (List.mem_append_right _ (List.mem_append_left _ hm))))
theorem mT106 {w : Cond} (i : Nat) (h : lw_privs_6[i]?.map (fun q => Cond.selects q.1.cls q.1 q.1) = some w) (g : goodWord w = true) : w ∈ aWs := by
  obtain ⟨q, hq, e⟩ := Option.map_eq_some_iff.mp h
  have hm := List.mem_of_getElem? hq
  refine mT_of ?_ g
  show w ∈ k2_sels lw_privs ++ tables_1
  refine List.mem_append_left _ ?_
  unfold k2_sels
  refine List.mem_map.mpr ⟨q, ?_, e⟩
  show q ∈ lw_privs_1 ++ (lw_privs_2 ++ (lw_privs_3 ++ (lw_privs_4 ++ (lw_privs_5 ++ (lw_privs_6 ++ (lw_privs_7))))))
  exact List.mem_append_right _ (List.mem_append_right _ (List.mem_append_right _ (List.mem_append_right _ (List.mem_append_right _ (List.mem_append_left _ hm)))))
theorem mT107 {w : Cond} (i : Nat) (h : lw_privs_7[i]?.map (fun q => Cond.selects q.1.cls q.1 q.1) = some w) (g : goodWord w = true) : w ∈ aWs := by
  obtain ⟨q, hq, e⟩ := Option.map_eq_some_iff.mp h
  have hm := List.mem_of_getElem? hq
  refine mT_of ?_ g
  show w ∈ k2_sels lw_privs ++ tables_1
  refine List.mem_append_left _ ?_
  unfold k2_sels
  refine List.mem_map.mpr ⟨q, ?_, e⟩
  show q ∈ lw_privs_1 ++ (lw_privs_2 ++ (lw_privs_3 ++ (lw_privs_4 ++ (lw_privs_5 ++ (lw_privs_6 ++ (lw_privs_7))))))
  exact List.mem_append_right _ (List.mem_append_right _ (List.mem_append_right _ (List.mem_append_right _ (List.mem_append_right _ (List.mem_append_right _ (hm))))))
def mQ (q : MethodName × ByteArray × Nat × Option FieldType) : Prop := Cond.code q.1 q.2.1 q.2.2.1 q.2.2.2 ∈ aWs ∧ plainFor q.1 = true ∧ Cond.initialized q.1.cls ∈ aWs ∧ q.1.cls ≠ "java/lang/invoke/MethodHandle" ∧ q.1.cls ≠ "java/lang/invoke/VarHandle" ∧ q.2.2.1 ≤ 40
theorem pl0 : plainName "GallopDispatch$Acts" = true ∧ "GallopDispatch$Acts" ≠ "java/lang/invoke/MethodHandle" ∧ "GallopDispatch$Acts" ≠ "java/lang/invoke/VarHandle" := by decide +kernel
theorem pl1 : plainName "GallopDispatch$Course" = true ∧ "GallopDispatch$Course" ≠ "java/lang/invoke/MethodHandle" ∧ "GallopDispatch$Course" ≠ "java/lang/invoke/VarHandle" := by decide +kernel
theorem pl2 : plainName "GallopDispatch$Diary" = true ∧ "GallopDispatch$Diary" ≠ "java/lang/invoke/MethodHandle" ∧ "GallopDispatch$Diary" ≠ "java/lang/invoke/VarHandle" := by decide +kernel
theorem pl3 : plainName "GallopDispatch$Law" = true ∧ "GallopDispatch$Law" ≠ "java/lang/invoke/MethodHandle" ∧ "GallopDispatch$Law" ≠ "java/lang/invoke/VarHandle" := by decide +kernel
theorem pl4 : plainName "GallopDispatch$LawReader" = true ∧ "GallopDispatch$LawReader" ≠ "java/lang/invoke/MethodHandle" ∧ "GallopDispatch$LawReader" ≠ "java/lang/invoke/VarHandle" := by decide +kernel
theorem pl5 : plainName "GallopDispatch$RideReader" = true ∧ "GallopDispatch$RideReader" ≠ "java/lang/invoke/MethodHandle" ∧ "GallopDispatch$RideReader" ≠ "java/lang/invoke/VarHandle" := by decide +kernel
theorem pl6 : plainName "GallopDispatch$Sightings" = true ∧ "GallopDispatch$Sightings" ≠ "java/lang/invoke/MethodHandle" ∧ "GallopDispatch$Sightings" ≠ "java/lang/invoke/VarHandle" := by decide +kernel
theorem pl7 : plainName "GallopDispatch$State" = true ∧ "GallopDispatch$State" ≠ "java/lang/invoke/MethodHandle" ∧ "GallopDispatch$State" ≠ "java/lang/invoke/VarHandle" := by decide +kernel
theorem pl8 : plainName "GallopDispatch$Tape" = true ∧ "GallopDispatch$Tape" ≠ "java/lang/invoke/MethodHandle" ∧ "GallopDispatch$Tape" ≠ "java/lang/invoke/VarHandle" := by decide +kernel
theorem pl9 : plainName "GallopDispatch$Told" = true ∧ "GallopDispatch$Told" ≠ "java/lang/invoke/MethodHandle" ∧ "GallopDispatch$Told" ≠ "java/lang/invoke/VarHandle" := by decide +kernel
theorem pl10 : plainName "GallopDispatch" = true ∧ "GallopDispatch" ≠ "java/lang/invoke/MethodHandle" ∧ "GallopDispatch" ≠ "java/lang/invoke/VarHandle" := by decide +kernel
theorem pl11 : plainName "GallopDispatchModel" = true ∧ "GallopDispatchModel" ≠ "java/lang/invoke/MethodHandle" ∧ "GallopDispatchModel" ≠ "java/lang/invoke/VarHandle" := by decide +kernel
theorem pl12 : plainName "java/lang/Integer" = true ∧ "java/lang/Integer" ≠ "java/lang/invoke/MethodHandle" ∧ "java/lang/Integer" ≠ "java/lang/invoke/VarHandle" := by decide +kernel
theorem pl13 : True ∧ "java/lang/Math" ≠ "java/lang/invoke/MethodHandle" ∧ "java/lang/Math" ≠ "java/lang/invoke/VarHandle" := by decide +kernel
theorem pl14 : plainName "java/lang/String" = true ∧ "java/lang/String" ≠ "java/lang/invoke/MethodHandle" ∧ "java/lang/String" ≠ "java/lang/invoke/VarHandle" := by decide +kernel
theorem pl15 : plainName "java/lang/StringLatin1" = true ∧ "java/lang/StringLatin1" ≠ "java/lang/invoke/MethodHandle" ∧ "java/lang/StringLatin1" ≠ "java/lang/invoke/VarHandle" := by decide +kernel
theorem pl16 : plainName "java/util/Arrays" = true ∧ "java/util/Arrays" ≠ "java/lang/invoke/MethodHandle" ∧ "java/util/Arrays" ≠ "java/lang/invoke/VarHandle" := by decide +kernel
theorem pl17 : plainName "GallopDispatchLaw" = true ∧ "GallopDispatchLaw" ≠ "java/lang/invoke/MethodHandle" ∧ "GallopDispatchLaw" ≠ "java/lang/invoke/VarHandle" := by decide +kernel
theorem wd0 : Cond.code ⟨"GallopDispatch$Acts", "<init>", "()V"⟩ prog_2_method_1_code 2 (Option.none : Option Jvm.ClassFile.FieldType) ∈ aWs := mT1 225 rfl rfl
theorem wd1 : Cond.initialized "GallopDispatch$Acts" ∈ aWs := mT1 9 rfl rfl
set_option maxRecDepth 10000 in
theorem mi0 : aMI 0 = some (⟨"GallopDispatch$Acts", "<init>", "()V"⟩, prog_2_method_1_code, 2, none) := rfl
theorem mo0 : mQ (⟨"GallopDispatch$Acts", "<init>", "()V"⟩, prog_2_method_1_code, 2, none) := ⟨wd0, plainFor_of_name pl0.1, wd1, pl0.2.1, pl0.2.2, by decide⟩
theorem wd2 : Cond.code ⟨"GallopDispatch$Acts", "size", "()I"⟩ prog_2_method_2_code 1 (Option.some FieldType.int) ∈ aWs := mT4 101 rfl rfl
set_option maxRecDepth 10000 in
theorem mi1 : aMI 1 = some (⟨"GallopDispatch$Acts", "size", "()I"⟩, prog_2_method_2_code, 1, some (.int)) := rfl
theorem mo1 : mQ (⟨"GallopDispatch$Acts", "size", "()I"⟩, prog_2_method_2_code, 1, some (.int)) := ⟨wd2, plainFor_of_name pl0.1, wd1, pl0.2.1, pl0.2.2, by decide⟩
theorem wd3 : Cond.code ⟨"GallopDispatch$Acts", "forget", "()V"⟩ prog_2_method_3_code 1 (Option.none : Option Jvm.ClassFile.FieldType) ∈ aWs := mT3 227 rfl rfl
set_option maxRecDepth 10000 in
theorem mi2 : aMI 2 = some (⟨"GallopDispatch$Acts", "forget", "()V"⟩, prog_2_method_3_code, 1, none) := rfl
theorem mo2 : mQ (⟨"GallopDispatch$Acts", "forget", "()V"⟩, prog_2_method_3_code, 1, none) := ⟨wd3, plainFor_of_name pl0.1, wd1, pl0.2.1, pl0.2.2, by decide⟩
theorem wd4 : Cond.code ⟨"GallopDispatch$Acts", "keep", "(LGallopDispatch$State;)V"⟩ prog_2_method_4_code 2 (Option.none : Option Jvm.ClassFile.FieldType) ∈ aWs := mT4 115 rfl rfl
set_option maxRecDepth 10000 in
theorem mi3 : aMI 3 = some (⟨"GallopDispatch$Acts", "keep", "(LGallopDispatch$State;)V"⟩, prog_2_method_4_code, 2, none) := rfl
theorem mo3 : mQ (⟨"GallopDispatch$Acts", "keep", "(LGallopDispatch$State;)V"⟩, prog_2_method_4_code, 2, none) := ⟨wd4, plainFor_of_name pl0.1, wd1, pl0.2.1, pl0.2.2, by decide⟩
theorem wd5 : Cond.code ⟨"GallopDispatch$Acts", "takeBack", "(LGallopDispatch$State;)V"⟩ prog_2_method_5_code 2 (Option.none : Option Jvm.ClassFile.FieldType) ∈ aWs := mT4 226 rfl rfl
set_option maxRecDepth 10000 in
theorem mi4 : aMI 4 = some (⟨"GallopDispatch$Acts", "takeBack", "(LGallopDispatch$State;)V"⟩, prog_2_method_5_code, 2, none) := rfl
theorem mo4 : mQ (⟨"GallopDispatch$Acts", "takeBack", "(LGallopDispatch$State;)V"⟩, prog_2_method_5_code, 2, none) := ⟨wd5, plainFor_of_name pl0.1, wd1, pl0.2.1, pl0.2.2, by decide⟩
theorem wd6 : Cond.code ⟨"GallopDispatch$Course", "<init>", "()V"⟩ prog_3_method_1_code 1 (Option.none : Option Jvm.ClassFile.FieldType) ∈ aWs := mT2 6 rfl rfl
theorem wd7 : Cond.initialized "GallopDispatch$Course" ∈ aWs := mT1 10 rfl rfl
set_option maxRecDepth 10000 in
theorem mi5 : aMI 5 = some (⟨"GallopDispatch$Course", "<init>", "()V"⟩, prog_3_method_1_code, 1, none) := rfl
theorem mo5 : mQ (⟨"GallopDispatch$Course", "<init>", "()V"⟩, prog_3_method_1_code, 1, none) := ⟨wd6, plainFor_of_name pl1.1, wd7, pl1.2.1, pl1.2.2, by decide⟩
theorem wd8 : Cond.code ⟨"GallopDispatch$Course", "setOut", "(LGallopDispatch$Told;LGallopDispatch$State;LGallopDispatch$Law;)V"⟩ prog_3_method_2_code 6 (Option.none : Option Jvm.ClassFile.FieldType) ∈ aWs := mT4 52 rfl rfl
set_option maxRecDepth 10000 in
theorem mi6 : aMI 6 = some (⟨"GallopDispatch$Course", "setOut", "(LGallopDispatch$Told;LGallopDispatch$State;LGallopDispatch$Law;)V"⟩, prog_3_method_2_code, 6, none) := rfl
theorem mo6 : mQ (⟨"GallopDispatch$Course", "setOut", "(LGallopDispatch$Told;LGallopDispatch$State;LGallopDispatch$Law;)V"⟩, prog_3_method_2_code, 6, none) := ⟨wd8, plainFor_of_name pl1.1, wd7, pl1.2.1, pl1.2.2, by decide⟩
theorem wd9 : Cond.code ⟨"GallopDispatch$Course", "loudness", "(II)I"⟩ prog_3_method_3_code 5 (Option.some FieldType.int) ∈ aWs := mT4 58 rfl rfl
set_option maxRecDepth 10000 in
theorem mi7 : aMI 7 = some (⟨"GallopDispatch$Course", "loudness", "(II)I"⟩, prog_3_method_3_code, 5, some (.int)) := rfl
theorem mo7 : mQ (⟨"GallopDispatch$Course", "loudness", "(II)I"⟩, prog_3_method_3_code, 5, some (.int)) := ⟨wd9, plainFor_of_name pl1.1, wd7, pl1.2.1, pl1.2.2, by decide⟩
theorem wd10 : Cond.code ⟨"GallopDispatch$Course", "hear", "(II)V"⟩ prog_3_method_4_code 5 (Option.none : Option Jvm.ClassFile.FieldType) ∈ aWs := mT4 153 rfl rfl
set_option maxRecDepth 10000 in
theorem mi8 : aMI 8 = some (⟨"GallopDispatch$Course", "hear", "(II)V"⟩, prog_3_method_4_code, 5, none) := rfl
theorem mo8 : mQ (⟨"GallopDispatch$Course", "hear", "(II)V"⟩, prog_3_method_4_code, 5, none) := ⟨wd10, plainFor_of_name pl1.1, wd7, pl1.2.1, pl1.2.2, by decide⟩
theorem wd11 : Cond.code ⟨"GallopDispatch$Course", "hearAt", "(I)V"⟩ prog_3_method_5_code 3 (Option.none : Option Jvm.ClassFile.FieldType) ∈ aWs := mT5 172 rfl rfl
set_option maxRecDepth 10000 in
theorem mi9 : aMI 9 = some (⟨"GallopDispatch$Course", "hearAt", "(I)V"⟩, prog_3_method_5_code, 3, none) := rfl
theorem mo9 : mQ (⟨"GallopDispatch$Course", "hearAt", "(I)V"⟩, prog_3_method_5_code, 3, none) := ⟨wd11, plainFor_of_name pl1.1, wd7, pl1.2.1, pl1.2.2, by decide⟩
theorem wd12 : Cond.code ⟨"GallopDispatch$Course", "place", "(II)V"⟩ prog_3_method_6_code 3 (Option.none : Option Jvm.ClassFile.FieldType) ∈ aWs := mT5 48 rfl rfl
set_option maxRecDepth 10000 in
theorem mi10 : aMI 10 = some (⟨"GallopDispatch$Course", "place", "(II)V"⟩, prog_3_method_6_code, 3, none) := rfl
theorem mo10 : mQ (⟨"GallopDispatch$Course", "place", "(II)V"⟩, prog_3_method_6_code, 3, none) := ⟨wd12, plainFor_of_name pl1.1, wd7, pl1.2.1, pl1.2.2, by decide⟩
theorem wd13 : Cond.code ⟨"GallopDispatch$Course", "speak", "(II)V"⟩ prog_3_method_7_code 3 (Option.none : Option Jvm.ClassFile.FieldType) ∈ aWs := mT5 69 rfl rfl
set_option maxRecDepth 10000 in
theorem mi11 : aMI 11 = some (⟨"GallopDispatch$Course", "speak", "(II)V"⟩, prog_3_method_7_code, 3, none) := rfl
theorem mo11 : mQ (⟨"GallopDispatch$Course", "speak", "(II)V"⟩, prog_3_method_7_code, 3, none) := ⟨wd13, plainFor_of_name pl1.1, wd7, pl1.2.1, pl1.2.2, by decide⟩
theorem wd14 : Cond.code ⟨"GallopDispatch$Course", "ridePace", "(I)V"⟩ prog_3_method_8_code 2 (Option.none : Option Jvm.ClassFile.FieldType) ∈ aWs := mT5 57 rfl rfl
set_option maxRecDepth 10000 in
theorem mi12 : aMI 12 = some (⟨"GallopDispatch$Course", "ridePace", "(I)V"⟩, prog_3_method_8_code, 2, none) := rfl
theorem mo12 : mQ (⟨"GallopDispatch$Course", "ridePace", "(I)V"⟩, prog_3_method_8_code, 2, none) := ⟨wd14, plainFor_of_name pl1.1, wd7, pl1.2.1, pl1.2.2, by decide⟩
theorem wd15 : Cond.code ⟨"GallopDispatch$Course", "loudestAt", "(I)I"⟩ prog_3_method_9_code 5 (Option.some FieldType.int) ∈ aWs := mT4 165 rfl rfl
set_option maxRecDepth 10000 in
theorem mi13 : aMI 13 = some (⟨"GallopDispatch$Course", "loudestAt", "(I)I"⟩, prog_3_method_9_code, 5, some (.int)) := rfl
theorem mo13 : mQ (⟨"GallopDispatch$Course", "loudestAt", "(I)I"⟩, prog_3_method_9_code, 5, some (.int)) := ⟨wd15, plainFor_of_name pl1.1, wd7, pl1.2.1, pl1.2.2, by decide⟩
theorem wd16 : Cond.code ⟨"GallopDispatch$Course", "isSlip", "(II)Z"⟩ prog_3_method_10_code 3 (Option.some FieldType.boolean) ∈ aWs := mT4 169 rfl rfl
set_option maxRecDepth 10000 in
theorem mi14 : aMI 14 = some (⟨"GallopDispatch$Course", "isSlip", "(II)Z"⟩, prog_3_method_10_code, 3, some (.boolean)) := rfl
theorem mo14 : mQ (⟨"GallopDispatch$Course", "isSlip", "(II)Z"⟩, prog_3_method_10_code, 3, some (.boolean)) := ⟨wd16, plainFor_of_name pl1.1, wd7, pl1.2.1, pl1.2.2, by decide⟩
theorem wd17 : Cond.code ⟨"GallopDispatch$Course", "nextMan", "(I)I"⟩ prog_3_method_11_code 2 (Option.some FieldType.int) ∈ aWs := mT4 173 rfl rfl
set_option maxRecDepth 10000 in
theorem mi15 : aMI 15 = some (⟨"GallopDispatch$Course", "nextMan", "(I)I"⟩, prog_3_method_11_code, 2, some (.int)) := rfl
theorem mo15 : mQ (⟨"GallopDispatch$Course", "nextMan", "(I)I"⟩, prog_3_method_11_code, 2, some (.int)) := ⟨wd17, plainFor_of_name pl1.1, wd7, pl1.2.1, pl1.2.2, by decide⟩
theorem wd18 : Cond.code ⟨"GallopDispatch$Course", "go", "(I)V"⟩ prog_3_method_12_code 6 (Option.none : Option Jvm.ClassFile.FieldType) ∈ aWs := mT4 158 rfl rfl
set_option maxRecDepth 10000 in
theorem mi16 : aMI 16 = some (⟨"GallopDispatch$Course", "go", "(I)V"⟩, prog_3_method_12_code, 6, none) := rfl
theorem mo16 : mQ (⟨"GallopDispatch$Course", "go", "(I)V"⟩, prog_3_method_12_code, 6, none) := ⟨wd18, plainFor_of_name pl1.1, wd7, pl1.2.1, pl1.2.2, by decide⟩
theorem wd19 : Cond.code ⟨"GallopDispatch$Course", "wordAt", "(I)I"⟩ prog_3_method_13_code 2 (Option.some FieldType.int) ∈ aWs := mT5 15 rfl rfl
set_option maxRecDepth 10000 in
theorem mi17 : aMI 17 = some (⟨"GallopDispatch$Course", "wordAt", "(I)I"⟩, prog_3_method_13_code, 2, some (.int)) := rfl
theorem mo17 : mQ (⟨"GallopDispatch$Course", "wordAt", "(I)I"⟩, prog_3_method_13_code, 2, some (.int)) := ⟨wd19, plainFor_of_name pl1.1, wd7, pl1.2.1, pl1.2.2, by decide⟩
theorem wd20 : Cond.code ⟨"GallopDispatch$Course", "namedBits", "()I"⟩ prog_3_method_14_code 3 (Option.some FieldType.int) ∈ aWs := mT4 181 rfl rfl
set_option maxRecDepth 10000 in
theorem mi18 : aMI 18 = some (⟨"GallopDispatch$Course", "namedBits", "()I"⟩, prog_3_method_14_code, 3, some (.int)) := rfl
theorem mo18 : mQ (⟨"GallopDispatch$Course", "namedBits", "()I"⟩, prog_3_method_14_code, 3, some (.int)) := ⟨wd20, plainFor_of_name pl1.1, wd7, pl1.2.1, pl1.2.2, by decide⟩
theorem wd21 : Cond.code ⟨"GallopDispatch$Course", "lastStep", "(I)I"⟩ prog_3_method_15_code 2 (Option.some FieldType.int) ∈ aWs := mT5 27 rfl rfl
set_option maxRecDepth 10000 in
theorem mi19 : aMI 19 = some (⟨"GallopDispatch$Course", "lastStep", "(I)I"⟩, prog_3_method_15_code, 2, some (.int)) := rfl
theorem mo19 : mQ (⟨"GallopDispatch$Course", "lastStep", "(I)I"⟩, prog_3_method_15_code, 2, some (.int)) := ⟨wd21, plainFor_of_name pl1.1, wd7, pl1.2.1, pl1.2.2, by decide⟩
theorem wd22 : Cond.code ⟨"GallopDispatch$Course", "roomForAll", "()I"⟩ prog_3_method_16_code 5 (Option.some FieldType.int) ∈ aWs := mT5 31 rfl rfl
set_option maxRecDepth 10000 in
theorem mi20 : aMI 20 = some (⟨"GallopDispatch$Course", "roomForAll", "()I"⟩, prog_3_method_16_code, 5, some (.int)) := rfl
theorem mo20 : mQ (⟨"GallopDispatch$Course", "roomForAll", "()I"⟩, prog_3_method_16_code, 5, some (.int)) := ⟨wd22, plainFor_of_name pl1.1, wd7, pl1.2.1, pl1.2.2, by decide⟩
theorem wd23 : Cond.code ⟨"GallopDispatch$Course", "drySteps", "()I"⟩ prog_3_method_17_code 3 (Option.some FieldType.int) ∈ aWs := mT5 35 rfl rfl
set_option maxRecDepth 10000 in
theorem mi21 : aMI 21 = some (⟨"GallopDispatch$Course", "drySteps", "()I"⟩, prog_3_method_17_code, 3, some (.int)) := rfl
theorem mo21 : mQ (⟨"GallopDispatch$Course", "drySteps", "()I"⟩, prog_3_method_17_code, 3, some (.int)) := ⟨wd23, plainFor_of_name pl1.1, wd7, pl1.2.1, pl1.2.2, by decide⟩
theorem wd24 : Cond.code ⟨"GallopDispatch$Course", "partsNaming", "(III)I"⟩ prog_3_method_18_code 15 (Option.some FieldType.int) ∈ aWs := mT5 159 rfl rfl
set_option maxRecDepth 10000 in
theorem mi22 : aMI 22 = some (⟨"GallopDispatch$Course", "partsNaming", "(III)I"⟩, prog_3_method_18_code, 15, some (.int)) := rfl
theorem mo22 : mQ (⟨"GallopDispatch$Course", "partsNaming", "(III)I"⟩, prog_3_method_18_code, 15, some (.int)) := ⟨wd24, plainFor_of_name pl1.1, wd7, pl1.2.1, pl1.2.2, by decide⟩
theorem wd25 : Cond.code ⟨"GallopDispatch$Diary", "<init>", "()V"⟩ prog_4_method_1_code 1 (Option.none : Option Jvm.ClassFile.FieldType) ∈ aWs := mT1 209 rfl rfl
theorem wd26 : Cond.initialized "GallopDispatch$Diary" ∈ aWs := mT1 8 rfl rfl
set_option maxRecDepth 10000 in
theorem mi23 : aMI 23 = some (⟨"GallopDispatch$Diary", "<init>", "()V"⟩, prog_4_method_1_code, 1, none) := rfl
theorem mo23 : mQ (⟨"GallopDispatch$Diary", "<init>", "()V"⟩, prog_4_method_1_code, 1, none) := ⟨wd25, plainFor_of_name pl2.1, wd26, pl2.2.1, pl2.2.2, by decide⟩
theorem wd27 : Cond.code ⟨"GallopDispatch$Diary", "linesAt", "(I)I"⟩ prog_4_method_2_code 1 (Option.some FieldType.int) ∈ aWs := mT4 96 rfl rfl
set_option maxRecDepth 10000 in
theorem mi24 : aMI 24 = some (⟨"GallopDispatch$Diary", "linesAt", "(I)I"⟩, prog_4_method_2_code, 1, some (.int)) := rfl
theorem mo24 : mQ (⟨"GallopDispatch$Diary", "linesAt", "(I)I"⟩, prog_4_method_2_code, 1, some (.int)) := ⟨wd27, plainFor_of_name pl2.1, wd26, pl2.2.1, pl2.2.2, by decide⟩
theorem wd28 : Cond.code ⟨"GallopDispatch$Diary", "write", "(IIII)V"⟩ prog_4_method_3_code 6 (Option.none : Option Jvm.ClassFile.FieldType) ∈ aWs := mT4 191 rfl rfl
set_option maxRecDepth 10000 in
theorem mi25 : aMI 25 = some (⟨"GallopDispatch$Diary", "write", "(IIII)V"⟩, prog_4_method_3_code, 6, none) := rfl
theorem mo25 : mQ (⟨"GallopDispatch$Diary", "write", "(IIII)V"⟩, prog_4_method_3_code, 6, none) := ⟨wd28, plainFor_of_name pl2.1, wd26, pl2.2.1, pl2.2.2, by decide⟩
theorem wd29 : Cond.code ⟨"GallopDispatch$Diary", "readBack", "(III)I"⟩ prog_4_method_4_code 5 (Option.some FieldType.int) ∈ aWs := mT4 234 rfl rfl
set_option maxRecDepth 10000 in
theorem mi26 : aMI 26 = some (⟨"GallopDispatch$Diary", "readBack", "(III)I"⟩, prog_4_method_4_code, 5, some (.int)) := rfl
theorem mo26 : mQ (⟨"GallopDispatch$Diary", "readBack", "(III)I"⟩, prog_4_method_4_code, 5, some (.int)) := ⟨wd29, plainFor_of_name pl2.1, wd26, pl2.2.1, pl2.2.2, by decide⟩
theorem wd30 : Cond.code ⟨"GallopDispatch$Diary", "copyFrom", "(LGallopDispatch$Diary;)V"⟩ prog_4_method_5_code 2 (Option.none : Option Jvm.ClassFile.FieldType) ∈ aWs := mT5 2 rfl rfl
set_option maxRecDepth 10000 in
theorem mi27 : aMI 27 = some (⟨"GallopDispatch$Diary", "copyFrom", "(LGallopDispatch$Diary;)V"⟩, prog_4_method_5_code, 2, none) := rfl
theorem mo27 : mQ (⟨"GallopDispatch$Diary", "copyFrom", "(LGallopDispatch$Diary;)V"⟩, prog_4_method_5_code, 2, none) := ⟨wd30, plainFor_of_name pl2.1, wd26, pl2.2.1, pl2.2.2, by decide⟩
theorem wd31 : Cond.code ⟨"GallopDispatch$Law", "<init>", "()V"⟩ prog_5_method_1_code 1 (Option.none : Option Jvm.ClassFile.FieldType) ∈ aWs := mT1 123 rfl rfl
theorem wd32 : Cond.initialized "GallopDispatch$Law" ∈ aWs := mT1 6 rfl rfl
set_option maxRecDepth 10000 in
theorem mi28 : aMI 28 = some (⟨"GallopDispatch$Law", "<init>", "()V"⟩, prog_5_method_1_code, 1, none) := rfl
theorem mo28 : mQ (⟨"GallopDispatch$Law", "<init>", "()V"⟩, prog_5_method_1_code, 1, none) := ⟨wd31, plainFor_of_name pl3.1, wd32, pl3.2.1, pl3.2.2, by decide⟩
theorem wd33 : Cond.code ⟨"GallopDispatch$Law", "clear", "()V"⟩ prog_5_method_2_code 1 (Option.none : Option Jvm.ClassFile.FieldType) ∈ aWs := mT3 125 rfl rfl
set_option maxRecDepth 10000 in
theorem mi29 : aMI 29 = some (⟨"GallopDispatch$Law", "clear", "()V"⟩, prog_5_method_2_code, 1, none) := rfl
theorem mo29 : mQ (⟨"GallopDispatch$Law", "clear", "()V"⟩, prog_5_method_2_code, 1, none) := ⟨wd33, plainFor_of_name pl3.1, wd32, pl3.2.1, pl3.2.2, by decide⟩
theorem wd34 : Cond.code ⟨"GallopDispatch$Law", "copyFrom", "(LGallopDispatch$Law;)V"⟩ prog_5_method_3_code 2 (Option.none : Option Jvm.ClassFile.FieldType) ∈ aWs := mT3 239 rfl rfl
set_option maxRecDepth 10000 in
theorem mi30 : aMI 30 = some (⟨"GallopDispatch$Law", "copyFrom", "(LGallopDispatch$Law;)V"⟩, prog_5_method_3_code, 2, none) := rfl
theorem mo30 : mQ (⟨"GallopDispatch$Law", "copyFrom", "(LGallopDispatch$Law;)V"⟩, prog_5_method_3_code, 2, none) := ⟨wd34, plainFor_of_name pl3.1, wd32, pl3.2.1, pl3.2.2, by decide⟩
theorem wd35 : Cond.code ⟨"GallopDispatch$Law", "addClause", "()V"⟩ prog_5_method_4_code 1 (Option.none : Option Jvm.ClassFile.FieldType) ∈ aWs := mT3 134 rfl rfl
set_option maxRecDepth 10000 in
theorem mi31 : aMI 31 = some (⟨"GallopDispatch$Law", "addClause", "()V"⟩, prog_5_method_4_code, 1, none) := rfl
theorem mo31 : mQ (⟨"GallopDispatch$Law", "addClause", "()V"⟩, prog_5_method_4_code, 1, none) := ⟨wd35, plainFor_of_name pl3.1, wd32, pl3.2.1, pl3.2.2, by decide⟩
theorem wd36 : Cond.code ⟨"GallopDispatch$Law", "endCondition", "()V"⟩ prog_5_method_5_code 1 (Option.none : Option Jvm.ClassFile.FieldType) ∈ aWs := mT3 198 rfl rfl
set_option maxRecDepth 10000 in
theorem mi32 : aMI 32 = some (⟨"GallopDispatch$Law", "endCondition", "()V"⟩, prog_5_method_5_code, 1, none) := rfl
theorem mo32 : mQ (⟨"GallopDispatch$Law", "endCondition", "()V"⟩, prog_5_method_5_code, 1, none) := ⟨wd36, plainFor_of_name pl3.1, wd32, pl3.2.1, pl3.2.2, by decide⟩
theorem wd37 : Cond.code ⟨"GallopDispatch$Law", "add", "(I)V"⟩ prog_5_method_6_code 2 (Option.none : Option Jvm.ClassFile.FieldType) ∈ aWs := mT3 166 rfl rfl
set_option maxRecDepth 10000 in
theorem mi33 : aMI 33 = some (⟨"GallopDispatch$Law", "add", "(I)V"⟩, prog_5_method_6_code, 2, none) := rfl
theorem mo33 : mQ (⟨"GallopDispatch$Law", "add", "(I)V"⟩, prog_5_method_6_code, 2, none) := ⟨wd37, plainFor_of_name pl3.1, wd32, pl3.2.1, pl3.2.2, by decide⟩
theorem wd38 : Cond.code ⟨"GallopDispatch$Law", "addLetter", "(I)V"⟩ prog_5_method_7_code 2 (Option.none : Option Jvm.ClassFile.FieldType) ∈ aWs := mT3 174 rfl rfl
set_option maxRecDepth 10000 in
theorem mi34 : aMI 34 = some (⟨"GallopDispatch$Law", "addLetter", "(I)V"⟩, prog_5_method_7_code, 2, none) := rfl
theorem mo34 : mQ (⟨"GallopDispatch$Law", "addLetter", "(I)V"⟩, prog_5_method_7_code, 2, none) := ⟨wd38, plainFor_of_name pl3.1, wd32, pl3.2.1, pl3.2.2, by decide⟩
theorem wd39 : Cond.code ⟨"GallopDispatch$Law", "worth", "(IIIIII)I"⟩ prog_5_method_8_code 9 (Option.some FieldType.int) ∈ aWs := mT4 65 rfl rfl
set_option maxRecDepth 10000 in
theorem mi35 : aMI 35 = some (⟨"GallopDispatch$Law", "worth", "(IIIIII)I"⟩, prog_5_method_8_code, 9, some (.int)) := rfl
theorem mo35 : mQ (⟨"GallopDispatch$Law", "worth", "(IIIIII)I"⟩, prog_5_method_8_code, 9, some (.int)) := ⟨wd39, plainFor_of_name pl3.1, wd32, pl3.2.1, pl3.2.2, by decide⟩
theorem wd40 : Cond.code ⟨"GallopDispatch$Law", "work", "(II)I"⟩ prog_5_method_9_code 6 (Option.some FieldType.int) ∈ aWs := mT4 69 rfl rfl
set_option maxRecDepth 10000 in
theorem mi36 : aMI 36 = some (⟨"GallopDispatch$Law", "work", "(II)I"⟩, prog_5_method_9_code, 6, some (.int)) := rfl
theorem mo36 : mQ (⟨"GallopDispatch$Law", "work", "(II)I"⟩, prog_5_method_9_code, 6, some (.int)) := ⟨wd40, plainFor_of_name pl3.1, wd32, pl3.2.1, pl3.2.2, by decide⟩
theorem wd41 : Cond.code ⟨"GallopDispatch$Law", "letterValue", "(I)I"⟩ prog_5_method_10_code 2 (Option.some FieldType.int) ∈ aWs := mT4 73 rfl rfl
set_option maxRecDepth 10000 in
theorem mi37 : aMI 37 = some (⟨"GallopDispatch$Law", "letterValue", "(I)I"⟩, prog_5_method_10_code, 2, some (.int)) := rfl
theorem mo37 : mQ (⟨"GallopDispatch$Law", "letterValue", "(I)I"⟩, prog_5_method_10_code, 2, some (.int)) := ⟨wd41, plainFor_of_name pl3.1, wd32, pl3.2.1, pl3.2.2, by decide⟩
theorem wd42 : Cond.code ⟨"GallopDispatch$Law", "joined", "(III)I"⟩ prog_5_method_11_code 5 (Option.some FieldType.int) ∈ aWs := mT4 76 rfl rfl
set_option maxRecDepth 10000 in
theorem mi38 : aMI 38 = some (⟨"GallopDispatch$Law", "joined", "(III)I"⟩, prog_5_method_11_code, 5, some (.int)) := rfl
theorem mo38 : mQ (⟨"GallopDispatch$Law", "joined", "(III)I"⟩, prog_5_method_11_code, 5, some (.int)) := ⟨wd42, plainFor_of_name pl3.1, wd32, pl3.2.1, pl3.2.2, by decide⟩
theorem wd43 : Cond.code ⟨"GallopDispatch$LawReader", "<init>", "(LGallopDispatch$Tape;)V"⟩ prog_6_method_1_code 2 (Option.none : Option Jvm.ClassFile.FieldType) ∈ aWs := mT1 117 rfl rfl
theorem wd44 : Cond.initialized "GallopDispatch$LawReader" ∈ aWs := mT1 5 rfl rfl
set_option maxRecDepth 10000 in
theorem mi39 : aMI 39 = some (⟨"GallopDispatch$LawReader", "<init>", "(LGallopDispatch$Tape;)V"⟩, prog_6_method_1_code, 2, none) := rfl
theorem mo39 : mQ (⟨"GallopDispatch$LawReader", "<init>", "(LGallopDispatch$Tape;)V"⟩, prog_6_method_1_code, 2, none) := ⟨wd43, plainFor_of_name pl4.1, wd44, pl4.2.1, pl4.2.2, by decide⟩
theorem wd45 : Cond.code ⟨"GallopDispatch$LawReader", "read", "()I"⟩ prog_6_method_2_code 2 (Option.some FieldType.int) ∈ aWs := mT3 120 rfl rfl
set_option maxRecDepth 10000 in
theorem mi40 : aMI 40 = some (⟨"GallopDispatch$LawReader", "read", "()I"⟩, prog_6_method_2_code, 2, some (.int)) := rfl
theorem mo40 : mQ (⟨"GallopDispatch$LawReader", "read", "()I"⟩, prog_6_method_2_code, 2, some (.int)) := ⟨wd45, plainFor_of_name pl4.1, wd44, pl4.2.1, pl4.2.2, by decide⟩
theorem wd46 : Cond.code ⟨"GallopDispatch$LawReader", "readClause", "()Z"⟩ prog_6_method_3_code 2 (Option.some FieldType.boolean) ∈ aWs := mT3 129 rfl rfl
set_option maxRecDepth 10000 in
theorem mi41 : aMI 41 = some (⟨"GallopDispatch$LawReader", "readClause", "()Z"⟩, prog_6_method_3_code, 2, some (.boolean)) := rfl
theorem mo41 : mQ (⟨"GallopDispatch$LawReader", "readClause", "()Z"⟩, prog_6_method_3_code, 2, some (.boolean)) := ⟨wd46, plainFor_of_name pl4.1, wd44, pl4.2.1, pl4.2.2, by decide⟩
theorem wd47 : Cond.code ⟨"GallopDispatch$LawReader", "readSumBehindCondition", "()Z"⟩ prog_6_method_4_code 1 (Option.some FieldType.boolean) ∈ aWs := mT3 194 rfl rfl
set_option maxRecDepth 10000 in
theorem mi42 : aMI 42 = some (⟨"GallopDispatch$LawReader", "readSumBehindCondition", "()Z"⟩, prog_6_method_4_code, 1, some (.boolean)) := rfl
theorem mo42 : mQ (⟨"GallopDispatch$LawReader", "readSumBehindCondition", "()Z"⟩, prog_6_method_4_code, 1, some (.boolean)) := ⟨wd47, plainFor_of_name pl4.1, wd44, pl4.2.1, pl4.2.2, by decide⟩
theorem wd48 : Cond.code ⟨"GallopDispatch$LawReader", "readCondition", "(I)Z"⟩ prog_6_method_5_code 2 (Option.some FieldType.boolean) ∈ aWs := mT3 139 rfl rfl
set_option maxRecDepth 10000 in
theorem mi43 : aMI 43 = some (⟨"GallopDispatch$LawReader", "readCondition", "(I)Z"⟩, prog_6_method_5_code, 2, some (.boolean)) := rfl
theorem mo43 : mQ (⟨"GallopDispatch$LawReader", "readCondition", "(I)Z"⟩, prog_6_method_5_code, 2, some (.boolean)) := ⟨wd48, plainFor_of_name pl4.1, wd44, pl4.2.1, pl4.2.2, by decide⟩
theorem wd49 : Cond.code ⟨"GallopDispatch$LawReader", "readMoreTruths", "(I)Z"⟩ prog_6_method_6_code 3 (Option.some FieldType.boolean) ∈ aWs := mT3 190 rfl rfl
set_option maxRecDepth 10000 in
theorem mi44 : aMI 44 = some (⟨"GallopDispatch$LawReader", "readMoreTruths", "(I)Z"⟩, prog_6_method_6_code, 3, some (.boolean)) := rfl
theorem mo44 : mQ (⟨"GallopDispatch$LawReader", "readMoreTruths", "(I)Z"⟩, prog_6_method_6_code, 3, some (.boolean)) := ⟨wd49, plainFor_of_name pl4.1, wd44, pl4.2.1, pl4.2.2, by decide⟩
theorem wd50 : Cond.code ⟨"GallopDispatch$LawReader", "readTruth", "(I)Z"⟩ prog_6_method_7_code 2 (Option.some FieldType.boolean) ∈ aWs := mT3 143 rfl rfl
set_option maxRecDepth 10000 in
theorem mi45 : aMI 45 = some (⟨"GallopDispatch$LawReader", "readTruth", "(I)Z"⟩, prog_6_method_7_code, 2, some (.boolean)) := rfl
theorem mo45 : mQ (⟨"GallopDispatch$LawReader", "readTruth", "(I)Z"⟩, prog_6_method_7_code, 2, some (.boolean)) := ⟨wd50, plainFor_of_name pl4.1, wd44, pl4.2.1, pl4.2.2, by decide⟩
theorem wd51 : Cond.code ⟨"GallopDispatch$LawReader", "readMoreUnits", "(I)Z"⟩ prog_6_method_8_code 3 (Option.some FieldType.boolean) ∈ aWs := mT3 186 rfl rfl
set_option maxRecDepth 10000 in
theorem mi46 : aMI 46 = some (⟨"GallopDispatch$LawReader", "readMoreUnits", "(I)Z"⟩, prog_6_method_8_code, 3, some (.boolean)) := rfl
theorem mo46 : mQ (⟨"GallopDispatch$LawReader", "readMoreUnits", "(I)Z"⟩, prog_6_method_8_code, 3, some (.boolean)) := ⟨wd51, plainFor_of_name pl4.1, wd44, pl4.2.1, pl4.2.2, by decide⟩
theorem wd52 : Cond.code ⟨"GallopDispatch$LawReader", "readUnit", "(I)Z"⟩ prog_6_method_9_code 3 (Option.some FieldType.boolean) ∈ aWs := mT3 147 rfl rfl
set_option maxRecDepth 10000 in
theorem mi47 : aMI 47 = some (⟨"GallopDispatch$LawReader", "readUnit", "(I)Z"⟩, prog_6_method_9_code, 3, some (.boolean)) := rfl
theorem mo47 : mQ (⟨"GallopDispatch$LawReader", "readUnit", "(I)Z"⟩, prog_6_method_9_code, 3, some (.boolean)) := ⟨wd52, plainFor_of_name pl4.1, wd44, pl4.2.1, pl4.2.2, by decide⟩
theorem wd53 : Cond.code ⟨"GallopDispatch$LawReader", "readComparison", "(I)Z"⟩ prog_6_method_10_code 3 (Option.some FieldType.boolean) ∈ aWs := mT3 179 rfl rfl
set_option maxRecDepth 10000 in
theorem mi48 : aMI 48 = some (⟨"GallopDispatch$LawReader", "readComparison", "(I)Z"⟩, prog_6_method_10_code, 3, some (.boolean)) := rfl
theorem mo48 : mQ (⟨"GallopDispatch$LawReader", "readComparison", "(I)Z"⟩, prog_6_method_10_code, 3, some (.boolean)) := ⟨wd53, plainFor_of_name pl4.1, wd44, pl4.2.1, pl4.2.2, by decide⟩
theorem wd54 : Cond.code ⟨"GallopDispatch$LawReader", "comparison", "(I)I"⟩ prog_6_method_11_code 1 (Option.some FieldType.int) ∈ aWs := mT3 182 rfl rfl
set_option maxRecDepth 10000 in
theorem mi49 : aMI 49 = some (⟨"GallopDispatch$LawReader", "comparison", "(I)I"⟩, prog_6_method_11_code, 1, some (.int)) := rfl
theorem mo49 : mQ (⟨"GallopDispatch$LawReader", "comparison", "(I)I"⟩, prog_6_method_11_code, 1, some (.int)) := ⟨wd54, plainFor_of_name pl4.1, wd44, pl4.2.1, pl4.2.2, by decide⟩
theorem wd55 : Cond.code ⟨"GallopDispatch$LawReader", "readSum", "(I)Z"⟩ prog_6_method_12_code 4 (Option.some FieldType.boolean) ∈ aWs := mT3 151 rfl rfl
set_option maxRecDepth 10000 in
theorem mi50 : aMI 50 = some (⟨"GallopDispatch$LawReader", "readSum", "(I)Z"⟩, prog_6_method_12_code, 4, some (.boolean)) := rfl
theorem mo50 : mQ (⟨"GallopDispatch$LawReader", "readSum", "(I)Z"⟩, prog_6_method_12_code, 4, some (.boolean)) := ⟨wd55, plainFor_of_name pl4.1, wd44, pl4.2.1, pl4.2.2, by decide⟩
theorem wd56 : Cond.code ⟨"GallopDispatch$LawReader", "readTerm", "(I)Z"⟩ prog_6_method_13_code 4 (Option.some FieldType.boolean) ∈ aWs := mT3 155 rfl rfl
set_option maxRecDepth 10000 in
theorem mi51 : aMI 51 = some (⟨"GallopDispatch$LawReader", "readTerm", "(I)Z"⟩, prog_6_method_13_code, 4, some (.boolean)) := rfl
theorem mo51 : mQ (⟨"GallopDispatch$LawReader", "readTerm", "(I)Z"⟩, prog_6_method_13_code, 4, some (.boolean)) := ⟨wd56, plainFor_of_name pl4.1, wd44, pl4.2.1, pl4.2.2, by decide⟩
theorem wd57 : Cond.code ⟨"GallopDispatch$LawReader", "readAtom", "(I)Z"⟩ prog_6_method_14_code 4 (Option.some FieldType.boolean) ∈ aWs := mT3 159 rfl rfl
set_option maxRecDepth 10000 in
theorem mi52 : aMI 52 = some (⟨"GallopDispatch$LawReader", "readAtom", "(I)Z"⟩, prog_6_method_14_code, 4, some (.boolean)) := rfl
theorem mo52 : mQ (⟨"GallopDispatch$LawReader", "readAtom", "(I)Z"⟩, prog_6_method_14_code, 4, some (.boolean)) := ⟨wd57, plainFor_of_name pl4.1, wd44, pl4.2.1, pl4.2.2, by decide⟩
theorem wd58 : Cond.code ⟨"GallopDispatch$RideReader", "<init>", "(LGallopDispatch$Tape;)V"⟩ prog_7_method_1_code 2 (Option.none : Option Jvm.ClassFile.FieldType) ∈ aWs := mT1 58 rfl rfl
theorem wd59 : Cond.initialized "GallopDispatch$RideReader" ∈ aWs := mT1 3 rfl rfl
set_option maxRecDepth 10000 in
theorem mi53 : aMI 53 = some (⟨"GallopDispatch$RideReader", "<init>", "(LGallopDispatch$Tape;)V"⟩, prog_7_method_1_code, 2, none) := rfl
theorem mo53 : mQ (⟨"GallopDispatch$RideReader", "<init>", "(LGallopDispatch$Tape;)V"⟩, prog_7_method_1_code, 2, none) := ⟨wd58, plainFor_of_name pl5.1, wd59, pl5.2.1, pl5.2.2, by decide⟩
theorem wd60 : Cond.code ⟨"GallopDispatch$RideReader", "read", "()I"⟩ prog_7_method_2_code 2 (Option.some FieldType.int) ∈ aWs := mT2 182 rfl rfl
set_option maxRecDepth 10000 in
theorem mi54 : aMI 54 = some (⟨"GallopDispatch$RideReader", "read", "()I"⟩, prog_7_method_2_code, 2, some (.int)) := rfl
theorem mo54 : mQ (⟨"GallopDispatch$RideReader", "read", "()I"⟩, prog_7_method_2_code, 2, some (.int)) := ⟨wd60, plainFor_of_name pl5.1, wd59, pl5.2.1, pl5.2.2, by decide⟩
theorem wd61 : Cond.code ⟨"GallopDispatch$RideReader", "readClause", "()Z"⟩ prog_7_method_3_code 3 (Option.some FieldType.boolean) ∈ aWs := mT2 201 rfl rfl
set_option maxRecDepth 10000 in
theorem mi55 : aMI 55 = some (⟨"GallopDispatch$RideReader", "readClause", "()Z"⟩, prog_7_method_3_code, 3, some (.boolean)) := rfl
theorem mo55 : mQ (⟨"GallopDispatch$RideReader", "readClause", "()Z"⟩, prog_7_method_3_code, 3, some (.boolean)) := ⟨wd61, plainFor_of_name pl5.1, wd59, pl5.2.1, pl5.2.2, by decide⟩
theorem wd62 : Cond.code ⟨"GallopDispatch$RideReader", "readItems", "(Ljava/lang/String;[I[I[I)Z"⟩ prog_7_method_4_code 9 (Option.some FieldType.boolean) ∈ aWs := mT2 218 rfl rfl
set_option maxRecDepth 10000 in
theorem mi56 : aMI 56 = some (⟨"GallopDispatch$RideReader", "readItems", "(Ljava/lang/String;[I[I[I)Z"⟩, prog_7_method_4_code, 9, some (.boolean)) := rfl
theorem mo56 : mQ (⟨"GallopDispatch$RideReader", "readItems", "(Ljava/lang/String;[I[I[I)Z"⟩, prog_7_method_4_code, 9, some (.boolean)) := ⟨wd62, plainFor_of_name pl5.1, wd59, pl5.2.1, pl5.2.2, by decide⟩
theorem wd63 : Cond.code ⟨"GallopDispatch$Sightings", "<init>", "()V"⟩ prog_8_method_1_code 1 (Option.none : Option Jvm.ClassFile.FieldType) ∈ aWs := mT2 67 rfl rfl
theorem wd64 : Cond.initialized "GallopDispatch$Sightings" ∈ aWs := mT1 11 rfl rfl
set_option maxRecDepth 10000 in
theorem mi57 : aMI 57 = some (⟨"GallopDispatch$Sightings", "<init>", "()V"⟩, prog_8_method_1_code, 1, none) := rfl
theorem mo57 : mQ (⟨"GallopDispatch$Sightings", "<init>", "()V"⟩, prog_8_method_1_code, 1, none) := ⟨wd63, plainFor_of_name pl6.1, wd64, pl6.2.1, pl6.2.2, by decide⟩
theorem wd65 : Cond.code ⟨"GallopDispatch$Sightings", "size", "()I"⟩ prog_8_method_2_code 1 (Option.some FieldType.int) ∈ aWs := mT4 93 rfl rfl
set_option maxRecDepth 10000 in
theorem mi58 : aMI 58 = some (⟨"GallopDispatch$Sightings", "size", "()I"⟩, prog_8_method_2_code, 1, some (.int)) := rfl
theorem mo58 : mQ (⟨"GallopDispatch$Sightings", "size", "()I"⟩, prog_8_method_2_code, 1, some (.int)) := ⟨wd65, plainFor_of_name pl6.1, wd64, pl6.2.1, pl6.2.2, by decide⟩
theorem wd66 : Cond.code ⟨"GallopDispatch$Sightings", "forget", "()V"⟩ prog_8_method_3_code 1 (Option.none : Option Jvm.ClassFile.FieldType) ∈ aWs := mT3 231 rfl rfl
set_option maxRecDepth 10000 in
theorem mi59 : aMI 59 = some (⟨"GallopDispatch$Sightings", "forget", "()V"⟩, prog_8_method_3_code, 1, none) := rfl
theorem mo59 : mQ (⟨"GallopDispatch$Sightings", "forget", "()V"⟩, prog_8_method_3_code, 1, none) := ⟨wd66, plainFor_of_name pl6.1, wd64, pl6.2.1, pl6.2.2, by decide⟩
theorem wd67 : Cond.code ⟨"GallopDispatch$Sightings", "add", "(IIZ)V"⟩ prog_8_method_4_code 4 (Option.none : Option Jvm.ClassFile.FieldType) ∈ aWs := mT5 77 rfl rfl
set_option maxRecDepth 10000 in
theorem mi60 : aMI 60 = some (⟨"GallopDispatch$Sightings", "add", "(IIZ)V"⟩, prog_8_method_4_code, 4, none) := rfl
theorem mo60 : mQ (⟨"GallopDispatch$Sightings", "add", "(IIZ)V"⟩, prog_8_method_4_code, 4, none) := ⟨wd67, plainFor_of_name pl6.1, wd64, pl6.2.1, pl6.2.2, by decide⟩
theorem wd68 : Cond.code ⟨"GallopDispatch$Sightings", "weighAnew", "()V"⟩ prog_8_method_5_code 1 (Option.none : Option Jvm.ClassFile.FieldType) ∈ aWs := mT5 89 rfl rfl
set_option maxRecDepth 10000 in
theorem mi61 : aMI 61 = some (⟨"GallopDispatch$Sightings", "weighAnew", "()V"⟩, prog_8_method_5_code, 1, none) := rfl
theorem mo61 : mQ (⟨"GallopDispatch$Sightings", "weighAnew", "()V"⟩, prog_8_method_5_code, 1, none) := ⟨wd68, plainFor_of_name pl6.1, wd64, pl6.2.1, pl6.2.2, by decide⟩
theorem wd69 : Cond.code ⟨"GallopDispatch$Sightings", "keepIfFit", "(ILGallopDispatch$Course;)V"⟩ prog_8_method_6_code 4 (Option.none : Option Jvm.ClassFile.FieldType) ∈ aWs := mT5 93 rfl rfl
set_option maxRecDepth 10000 in
theorem mi62 : aMI 62 = some (⟨"GallopDispatch$Sightings", "keepIfFit", "(ILGallopDispatch$Course;)V"⟩, prog_8_method_6_code, 4, none) := rfl
theorem mo62 : mQ (⟨"GallopDispatch$Sightings", "keepIfFit", "(ILGallopDispatch$Course;)V"⟩, prog_8_method_6_code, 4, none) := ⟨wd69, plainFor_of_name pl6.1, wd64, pl6.2.1, pl6.2.2, by decide⟩
theorem wd70 : Cond.code ⟨"GallopDispatch$Sightings", "fitCount", "()I"⟩ prog_8_method_7_code 1 (Option.some FieldType.int) ∈ aWs := mT5 98 rfl rfl
set_option maxRecDepth 10000 in
theorem mi63 : aMI 63 = some (⟨"GallopDispatch$Sightings", "fitCount", "()I"⟩, prog_8_method_7_code, 1, some (.int)) := rfl
theorem mo63 : mQ (⟨"GallopDispatch$Sightings", "fitCount", "()I"⟩, prog_8_method_7_code, 1, some (.int)) := ⟨wd70, plainFor_of_name pl6.1, wd64, pl6.2.1, pl6.2.2, by decide⟩
theorem wd71 : Cond.code ⟨"GallopDispatch$Sightings", "fitAt", "(I)I"⟩ prog_8_method_8_code 2 (Option.some FieldType.int) ∈ aWs := mT5 102 rfl rfl
set_option maxRecDepth 10000 in
theorem mi64 : aMI 64 = some (⟨"GallopDispatch$Sightings", "fitAt", "(I)I"⟩, prog_8_method_8_code, 2, some (.int)) := rfl
theorem mo64 : mQ (⟨"GallopDispatch$Sightings", "fitAt", "(I)I"⟩, prog_8_method_8_code, 2, some (.int)) := ⟨wd71, plainFor_of_name pl6.1, wd64, pl6.2.1, pl6.2.2, by decide⟩
theorem wd72 : Cond.code ⟨"GallopDispatch$Sightings", "wordToLookAt", "()I"⟩ prog_8_method_9_code 5 (Option.some FieldType.int) ∈ aWs := mT5 110 rfl rfl
set_option maxRecDepth 10000 in
theorem mi65 : aMI 65 = some (⟨"GallopDispatch$Sightings", "wordToLookAt", "()I"⟩, prog_8_method_9_code, 5, some (.int)) := rfl
theorem mo65 : mQ (⟨"GallopDispatch$Sightings", "wordToLookAt", "()I"⟩, prog_8_method_9_code, 5, some (.int)) := ⟨wd72, plainFor_of_name pl6.1, wd64, pl6.2.1, pl6.2.2, by decide⟩
theorem wd73 : Cond.code ⟨"GallopDispatch$Sightings", "mostAlike", "(I)I"⟩ prog_8_method_10_code 6 (Option.some FieldType.int) ∈ aWs := mT5 114 rfl rfl
set_option maxRecDepth 10000 in
theorem mi66 : aMI 66 = some (⟨"GallopDispatch$Sightings", "mostAlike", "(I)I"⟩, prog_8_method_10_code, 6, some (.int)) := rfl
theorem mo66 : mQ (⟨"GallopDispatch$Sightings", "mostAlike", "(I)I"⟩, prog_8_method_10_code, 6, some (.int)) := ⟨wd73, plainFor_of_name pl6.1, wd64, pl6.2.1, pl6.2.2, by decide⟩
theorem wd74 : Cond.code ⟨"GallopDispatch$State", "<init>", "()V"⟩ prog_9_method_1_code 1 (Option.none : Option Jvm.ClassFile.FieldType) ∈ aWs := mT1 161 rfl rfl
theorem wd75 : Cond.initialized "GallopDispatch$State" ∈ aWs := mT1 7 rfl rfl
set_option maxRecDepth 10000 in
theorem mi67 : aMI 67 = some (⟨"GallopDispatch$State", "<init>", "()V"⟩, prog_9_method_1_code, 1, none) := rfl
theorem mo67 : mQ (⟨"GallopDispatch$State", "<init>", "()V"⟩, prog_9_method_1_code, 1, none) := ⟨wd74, plainFor_of_name pl7.1, wd75, pl7.2.1, pl7.2.2, by decide⟩
theorem wd76 : Cond.code ⟨"GallopDispatch$State", "begin", "(LGallopDispatch$Told;)V"⟩ prog_9_method_2_code 3 (Option.none : Option Jvm.ClassFile.FieldType) ∈ aWs := mT3 218 rfl rfl
set_option maxRecDepth 10000 in
theorem mi68 : aMI 68 = some (⟨"GallopDispatch$State", "begin", "(LGallopDispatch$Told;)V"⟩, prog_9_method_2_code, 3, none) := rfl
theorem mo68 : mQ (⟨"GallopDispatch$State", "begin", "(LGallopDispatch$Told;)V"⟩, prog_9_method_2_code, 3, none) := ⟨wd76, plainFor_of_name pl7.1, wd75, pl7.2.1, pl7.2.2, by decide⟩
theorem wd77 : Cond.code ⟨"GallopDispatch$State", "copyFrom", "(LGallopDispatch$State;)V"⟩ prog_9_method_3_code 2 (Option.none : Option Jvm.ClassFile.FieldType) ∈ aWs := mT3 222 rfl rfl
set_option maxRecDepth 10000 in
theorem mi69 : aMI 69 = some (⟨"GallopDispatch$State", "copyFrom", "(LGallopDispatch$State;)V"⟩, prog_9_method_3_code, 2, none) := rfl
theorem mo69 : mQ (⟨"GallopDispatch$State", "copyFrom", "(LGallopDispatch$State;)V"⟩, prog_9_method_3_code, 2, none) := ⟨wd77, plainFor_of_name pl7.1, wd75, pl7.2.1, pl7.2.2, by decide⟩
theorem wd78 : Cond.code ⟨"GallopDispatch$Tape", "<init>", "()V"⟩ prog_10_method_1_code 1 (Option.none : Option Jvm.ClassFile.FieldType) ∈ aWs := mT1 38 rfl rfl
theorem wd79 : Cond.initialized "GallopDispatch$Tape" ∈ aWs := mT1 2 rfl rfl
set_option maxRecDepth 10000 in
theorem mi70 : aMI 70 = some (⟨"GallopDispatch$Tape", "<init>", "()V"⟩, prog_10_method_1_code, 1, none) := rfl
theorem mo70 : mQ (⟨"GallopDispatch$Tape", "<init>", "()V"⟩, prog_10_method_1_code, 1, none) := ⟨wd78, plainFor_of_name pl8.1, wd79, pl8.2.1, pl8.2.2, by decide⟩
theorem wd80 : Cond.code ⟨"GallopDispatch$Tape", "bytesIn", "(I)I"⟩ prog_10_method_2_code 3 (Option.some FieldType.int) ∈ aWs := mT2 158 rfl rfl
set_option maxRecDepth 10000 in
theorem mi71 : aMI 71 = some (⟨"GallopDispatch$Tape", "bytesIn", "(I)I"⟩, prog_10_method_2_code, 3, some (.int)) := rfl
theorem mo71 : mQ (⟨"GallopDispatch$Tape", "bytesIn", "(I)I"⟩, prog_10_method_2_code, 3, some (.int)) := ⟨wd80, plainFor_of_name pl8.1, wd79, pl8.2.1, pl8.2.2, by decide⟩
theorem wd81 : Cond.code ⟨"GallopDispatch$Tape", "size", "()I"⟩ prog_10_method_3_code 1 (Option.some FieldType.int) ∈ aWs := mT2 162 rfl rfl
set_option maxRecDepth 10000 in
theorem mi72 : aMI 72 = some (⟨"GallopDispatch$Tape", "size", "()I"⟩, prog_10_method_3_code, 1, some (.int)) := rfl
theorem mo72 : mQ (⟨"GallopDispatch$Tape", "size", "()I"⟩, prog_10_method_3_code, 1, some (.int)) := ⟨wd81, plainFor_of_name pl8.1, wd79, pl8.2.1, pl8.2.2, by decide⟩
theorem wd82 : Cond.code ⟨"GallopDispatch$Tape", "append", "(I)V"⟩ prog_10_method_4_code 4 (Option.none : Option Jvm.ClassFile.FieldType) ∈ aWs := mT2 166 rfl rfl
set_option maxRecDepth 10000 in
theorem mi73 : aMI 73 = some (⟨"GallopDispatch$Tape", "append", "(I)V"⟩, prog_10_method_4_code, 4, none) := rfl
theorem mo73 : mQ (⟨"GallopDispatch$Tape", "append", "(I)V"⟩, prog_10_method_4_code, 4, none) := ⟨wd82, plainFor_of_name pl8.1, wd79, pl8.2.1, pl8.2.2, by decide⟩
theorem wd83 : Cond.code ⟨"GallopDispatch$Tape", "cut", "(I)V"⟩ prog_10_method_5_code 2 (Option.none : Option Jvm.ClassFile.FieldType) ∈ aWs := mT2 174 rfl rfl
set_option maxRecDepth 10000 in
theorem mi74 : aMI 74 = some (⟨"GallopDispatch$Tape", "cut", "(I)V"⟩, prog_10_method_5_code, 2, none) := rfl
theorem mo74 : mQ (⟨"GallopDispatch$Tape", "cut", "(I)V"⟩, prog_10_method_5_code, 2, none) := ⟨wd83, plainFor_of_name pl8.1, wd79, pl8.2.1, pl8.2.2, by decide⟩
theorem wd84 : Cond.code ⟨"GallopDispatch$Tape", "rewind", "()V"⟩ prog_10_method_6_code 1 (Option.none : Option Jvm.ClassFile.FieldType) ∈ aWs := mT2 186 rfl rfl
set_option maxRecDepth 10000 in
theorem mi75 : aMI 75 = some (⟨"GallopDispatch$Tape", "rewind", "()V"⟩, prog_10_method_6_code, 1, none) := rfl
theorem mo75 : mQ (⟨"GallopDispatch$Tape", "rewind", "()V"⟩, prog_10_method_6_code, 1, none) := ⟨wd84, plainFor_of_name pl8.1, wd79, pl8.2.1, pl8.2.2, by decide⟩
theorem wd85 : Cond.code ⟨"GallopDispatch$Tape", "whereWrong", "()I"⟩ prog_10_method_7_code 1 (Option.some FieldType.int) ∈ aWs := mT3 101 rfl rfl
set_option maxRecDepth 10000 in
theorem mi76 : aMI 76 = some (⟨"GallopDispatch$Tape", "whereWrong", "()I"⟩, prog_10_method_7_code, 1, some (.int)) := rfl
theorem mo76 : mQ (⟨"GallopDispatch$Tape", "whereWrong", "()I"⟩, prog_10_method_7_code, 1, some (.int)) := ⟨wd85, plainFor_of_name pl8.1, wd79, pl8.2.1, pl8.2.2, by decide⟩
theorem wd86 : Cond.code ⟨"GallopDispatch$Tape", "look", "()I"⟩ prog_10_method_8_code 1 (Option.some FieldType.int) ∈ aWs := mT2 205 rfl rfl
set_option maxRecDepth 10000 in
theorem mi77 : aMI 77 = some (⟨"GallopDispatch$Tape", "look", "()I"⟩, prog_10_method_8_code, 1, some (.int)) := rfl
theorem mo77 : mQ (⟨"GallopDispatch$Tape", "look", "()I"⟩, prog_10_method_8_code, 1, some (.int)) := ⟨wd86, plainFor_of_name pl8.1, wd79, pl8.2.1, pl8.2.2, by decide⟩
theorem wd87 : Cond.code ⟨"GallopDispatch$Tape", "pass", "()V"⟩ prog_10_method_9_code 1 (Option.none : Option Jvm.ClassFile.FieldType) ∈ aWs := mT2 209 rfl rfl
set_option maxRecDepth 10000 in
theorem mi78 : aMI 78 = some (⟨"GallopDispatch$Tape", "pass", "()V"⟩, prog_10_method_9_code, 1, none) := rfl
theorem mo78 : mQ (⟨"GallopDispatch$Tape", "pass", "()V"⟩, prog_10_method_9_code, 1, none) := ⟨wd87, plainFor_of_name pl8.1, wd79, pl8.2.1, pl8.2.2, by decide⟩
theorem wd88 : Cond.code ⟨"GallopDispatch$Tape", "take", "(I)Z"⟩ prog_10_method_10_code 2 (Option.some FieldType.boolean) ∈ aWs := mT3 114 rfl rfl
set_option maxRecDepth 10000 in
theorem mi79 : aMI 79 = some (⟨"GallopDispatch$Tape", "take", "(I)Z"⟩, prog_10_method_10_code, 2, some (.boolean)) := rfl
theorem mo79 : mQ (⟨"GallopDispatch$Tape", "take", "(I)Z"⟩, prog_10_method_10_code, 2, some (.boolean)) := ⟨wd88, plainFor_of_name pl8.1, wd79, pl8.2.1, pl8.2.2, by decide⟩
theorem wd89 : Cond.code ⟨"GallopDispatch$Tape", "isWrong", "()Z"⟩ prog_10_method_11_code 1 (Option.some FieldType.boolean) ∈ aWs := mT3 70 rfl rfl
set_option maxRecDepth 10000 in
theorem mi80 : aMI 80 = some (⟨"GallopDispatch$Tape", "isWrong", "()Z"⟩, prog_10_method_11_code, 1, some (.boolean)) := rfl
theorem mo80 : mQ (⟨"GallopDispatch$Tape", "isWrong", "()Z"⟩, prog_10_method_11_code, 1, some (.boolean)) := ⟨wd89, plainFor_of_name pl8.1, wd79, pl8.2.1, pl8.2.2, by decide⟩
theorem wd90 : Cond.code ⟨"GallopDispatch$Tape", "isWrongNumber", "()Z"⟩ prog_10_method_12_code 1 (Option.some FieldType.boolean) ∈ aWs := mT3 83 rfl rfl
set_option maxRecDepth 10000 in
theorem mi81 : aMI 81 = some (⟨"GallopDispatch$Tape", "isWrongNumber", "()Z"⟩, prog_10_method_12_code, 1, some (.boolean)) := rfl
theorem mo81 : mQ (⟨"GallopDispatch$Tape", "isWrongNumber", "()Z"⟩, prog_10_method_12_code, 1, some (.boolean)) := ⟨wd90, plainFor_of_name pl8.1, wd79, pl8.2.1, pl8.2.2, by decide⟩
theorem wd91 : Cond.code ⟨"GallopDispatch$Tape", "takeNumber", "(I)I"⟩ prog_10_method_13_code 4 (Option.some FieldType.int) ∈ aWs := mT3 74 rfl rfl
set_option maxRecDepth 10000 in
theorem mi82 : aMI 82 = some (⟨"GallopDispatch$Tape", "takeNumber", "(I)I"⟩, prog_10_method_13_code, 4, some (.int)) := rfl
theorem mo82 : mQ (⟨"GallopDispatch$Tape", "takeNumber", "(I)I"⟩, prog_10_method_13_code, 4, some (.int)) := ⟨wd91, plainFor_of_name pl8.1, wd79, pl8.2.1, pl8.2.2, by decide⟩
theorem wd92 : Cond.code ⟨"GallopDispatch$Tape", "isDigit", "(I)Z"⟩ prog_10_method_14_code 1 (Option.some FieldType.boolean) ∈ aWs := mT3 78 rfl rfl
set_option maxRecDepth 10000 in
theorem mi83 : aMI 83 = some (⟨"GallopDispatch$Tape", "isDigit", "(I)Z"⟩, prog_10_method_14_code, 1, some (.boolean)) := rfl
theorem mo83 : mQ (⟨"GallopDispatch$Tape", "isDigit", "(I)Z"⟩, prog_10_method_14_code, 1, some (.boolean)) := ⟨wd92, plainFor_of_name pl8.1, wd79, pl8.2.1, pl8.2.2, by decide⟩
theorem wd93 : Cond.code ⟨"GallopDispatch$Told", "<init>", "()V"⟩ prog_11_method_1_code 1 (Option.none : Option Jvm.ClassFile.FieldType) ∈ aWs := mT1 64 rfl rfl
theorem wd94 : Cond.initialized "GallopDispatch$Told" ∈ aWs := mT1 4 rfl rfl
set_option maxRecDepth 10000 in
theorem mi84 : aMI 84 = some (⟨"GallopDispatch$Told", "<init>", "()V"⟩, prog_11_method_1_code, 1, none) := rfl
theorem mo84 : mQ (⟨"GallopDispatch$Told", "<init>", "()V"⟩, prog_11_method_1_code, 1, none) := ⟨wd93, plainFor_of_name pl9.1, wd94, pl9.2.1, pl9.2.2, by decide⟩
theorem wd95 : Cond.code ⟨"GallopDispatch$Told", "copyFrom", "(LGallopDispatch$Told;)V"⟩ prog_11_method_2_code 3 (Option.none : Option Jvm.ClassFile.FieldType) ∈ aWs := mT3 213 rfl rfl
set_option maxRecDepth 10000 in
theorem mi85 : aMI 85 = some (⟨"GallopDispatch$Told", "copyFrom", "(LGallopDispatch$Told;)V"⟩, prog_11_method_2_code, 3, none) := rfl
theorem mo85 : mQ (⟨"GallopDispatch$Told", "copyFrom", "(LGallopDispatch$Told;)V"⟩, prog_11_method_2_code, 3, none) := ⟨wd95, plainFor_of_name pl9.1, wd94, pl9.2.1, pl9.2.2, by decide⟩
theorem wd96 : Cond.code ⟨"GallopDispatch$Told", "isWhole", "()Z"⟩ prog_11_method_3_code 2 (Option.some FieldType.boolean) ∈ aWs := mT3 105 rfl rfl
set_option maxRecDepth 10000 in
theorem mi86 : aMI 86 = some (⟨"GallopDispatch$Told", "isWhole", "()Z"⟩, prog_11_method_3_code, 2, some (.boolean)) := rfl
theorem mo86 : mQ (⟨"GallopDispatch$Told", "isWhole", "()Z"⟩, prog_11_method_3_code, 2, some (.boolean)) := ⟨wd96, plainFor_of_name pl9.1, wd94, pl9.2.1, pl9.2.2, by decide⟩
theorem wd97 : Cond.code ⟨"GallopDispatch$Told", "hasFordBefore", "(I)Z"⟩ prog_11_method_4_code 3 (Option.some FieldType.boolean) ∈ aWs := mT3 109 rfl rfl
set_option maxRecDepth 10000 in
theorem mi87 : aMI 87 = some (⟨"GallopDispatch$Told", "hasFordBefore", "(I)Z"⟩, prog_11_method_4_code, 3, some (.boolean)) := rfl
theorem mo87 : mQ (⟨"GallopDispatch$Told", "hasFordBefore", "(I)Z"⟩, prog_11_method_4_code, 3, some (.boolean)) := ⟨wd97, plainFor_of_name pl9.1, wd94, pl9.2.1, pl9.2.2, by decide⟩
theorem wd98 : Cond.code ⟨"GallopDispatch", "<init>", "()V"⟩ prog_1_method_1_code 2 (Option.none : Option Jvm.ClassFile.FieldType) ∈ aWs := mT1 30 rfl rfl
theorem wd99 : Cond.initialized "GallopDispatch" ∈ aWs := mT1 1 rfl rfl
set_option maxRecDepth 10000 in
theorem mi88 : aMI 88 = some (⟨"GallopDispatch", "<init>", "()V"⟩, prog_1_method_1_code, 2, none) := rfl
theorem mo88 : mQ (⟨"GallopDispatch", "<init>", "()V"⟩, prog_1_method_1_code, 2, none) := ⟨wd98, plainFor_of_name pl10.1, wd99, pl10.2.1, pl10.2.2, by decide⟩
theorem wd100 : Cond.code ⟨"GallopDispatch", "feed", "(IIIII)I"⟩ prog_1_method_2_code 7 (Option.some FieldType.int) ∈ aWs := mT2 155 rfl rfl
set_option maxRecDepth 10000 in
theorem mi89 : aMI 89 = some (⟨"GallopDispatch", "feed", "(IIIII)I"⟩, prog_1_method_2_code, 7, some (.int)) := rfl
theorem mo89 : mQ (⟨"GallopDispatch", "feed", "(IIIII)I"⟩, prog_1_method_2_code, 7, some (.int)) := ⟨wd100, plainFor_of_name pl10.1, wd99, pl10.2.1, pl10.2.2, by decide⟩
theorem wd101 : Cond.code ⟨"GallopDispatch", "end", "(I)Z"⟩ prog_1_method_3_code 2 (Option.some FieldType.boolean) ∈ aWs := mT2 170 rfl rfl
set_option maxRecDepth 10000 in
theorem mi90 : aMI 90 = some (⟨"GallopDispatch", "end", "(I)Z"⟩, prog_1_method_3_code, 2, some (.boolean)) := rfl
theorem mo90 : mQ (⟨"GallopDispatch", "end", "(I)Z"⟩, prog_1_method_3_code, 2, some (.boolean)) := ⟨wd101, plainFor_of_name pl10.1, wd99, pl10.2.1, pl10.2.2, by decide⟩
theorem wd102 : Cond.code ⟨"GallopDispatch", "fault", "(I)I"⟩ prog_1_method_4_code 2 (Option.some FieldType.int) ∈ aWs := mT2 178 rfl rfl
set_option maxRecDepth 10000 in
theorem mi91 : aMI 91 = some (⟨"GallopDispatch", "fault", "(I)I"⟩, prog_1_method_4_code, 2, some (.int)) := rfl
theorem mo91 : mQ (⟨"GallopDispatch", "fault", "(I)I"⟩, prog_1_method_4_code, 2, some (.int)) := ⟨wd102, plainFor_of_name pl10.1, wd99, pl10.2.1, pl10.2.2, by decide⟩
theorem wd103 : Cond.code ⟨"GallopDispatch", "text", "(I)I"⟩ prog_1_method_5_code 2 (Option.some FieldType.int) ∈ aWs := mT3 205 rfl rfl
set_option maxRecDepth 10000 in
theorem mi92 : aMI 92 = some (⟨"GallopDispatch", "text", "(I)I"⟩, prog_1_method_5_code, 2, some (.int)) := rfl
theorem mo92 : mQ (⟨"GallopDispatch", "text", "(I)I"⟩, prog_1_method_5_code, 2, some (.int)) := ⟨wd103, plainFor_of_name pl10.1, wd99, pl10.2.1, pl10.2.2, by decide⟩
theorem wd104 : Cond.code ⟨"GallopDispatch", "beginRide", "()I"⟩ prog_1_method_6_code 1 (Option.some FieldType.int) ∈ aWs := mT3 209 rfl rfl
set_option maxRecDepth 10000 in
theorem mi93 : aMI 93 = some (⟨"GallopDispatch", "beginRide", "()I"⟩, prog_1_method_6_code, 1, some (.int)) := rfl
theorem mo93 : mQ (⟨"GallopDispatch", "beginRide", "()I"⟩, prog_1_method_6_code, 1, some (.int)) := ⟨wd104, plainFor_of_name pl10.1, wd99, pl10.2.1, pl10.2.2, by decide⟩
theorem wd105 : Cond.code ⟨"GallopDispatch", "keepLaw", "()I"⟩ prog_1_method_7_code 1 (Option.some FieldType.int) ∈ aWs := mT3 235 rfl rfl
set_option maxRecDepth 10000 in
theorem mi94 : aMI 94 = some (⟨"GallopDispatch", "keepLaw", "()I"⟩, prog_1_method_7_code, 1, some (.int)) := rfl
theorem mo94 : mQ (⟨"GallopDispatch", "keepLaw", "()I"⟩, prog_1_method_7_code, 1, some (.int)) := ⟨wd105, plainFor_of_name pl10.1, wd99, pl10.2.1, pl10.2.2, by decide⟩
theorem wd106 : Cond.code ⟨"GallopDispatch", "rule", "(I)I"⟩ prog_1_method_8_code 2 (Option.some FieldType.int) ∈ aWs := mT4 4 rfl rfl
set_option maxRecDepth 10000 in
theorem mi95 : aMI 95 = some (⟨"GallopDispatch", "rule", "(I)I"⟩, prog_1_method_8_code, 2, some (.int)) := rfl
theorem mo95 : mQ (⟨"GallopDispatch", "rule", "(I)I"⟩, prog_1_method_8_code, 2, some (.int)) := ⟨wd106, plainFor_of_name pl10.1, wd99, pl10.2.1, pl10.2.2, by decide⟩
theorem wd107 : Cond.code ⟨"GallopDispatch", "ford", "(II)I"⟩ prog_1_method_10_code 3 (Option.some FieldType.int) ∈ aWs := mT4 20 rfl rfl
set_option maxRecDepth 10000 in
theorem mi96 : aMI 96 = some (⟨"GallopDispatch", "ford", "(II)I"⟩, prog_1_method_10_code, 3, some (.int)) := rfl
theorem mo96 : mQ (⟨"GallopDispatch", "ford", "(II)I"⟩, prog_1_method_10_code, 3, some (.int)) := ⟨wd107, plainFor_of_name pl10.1, wd99, pl10.2.1, pl10.2.2, by decide⟩
theorem wd108 : Cond.code ⟨"GallopDispatch", "law", "(I)Z"⟩ prog_1_method_11_code 2 (Option.some FieldType.boolean) ∈ aWs := mT4 28 rfl rfl
set_option maxRecDepth 10000 in
theorem mi97 : aMI 97 = some (⟨"GallopDispatch", "law", "(I)Z"⟩, prog_1_method_11_code, 2, some (.boolean)) := rfl
theorem mo97 : mQ (⟨"GallopDispatch", "law", "(I)Z"⟩, prog_1_method_11_code, 2, some (.boolean)) := ⟨wd108, plainFor_of_name pl10.1, wd99, pl10.2.1, pl10.2.2, by decide⟩
theorem wd109 : Cond.code ⟨"GallopDispatch", "heard", "(II)I"⟩ prog_1_method_12_code 3 (Option.some FieldType.int) ∈ aWs := mT4 32 rfl rfl
set_option maxRecDepth 10000 in
theorem mi98 : aMI 98 = some (⟨"GallopDispatch", "heard", "(II)I"⟩, prog_1_method_12_code, 3, some (.int)) := rfl
theorem mo98 : mQ (⟨"GallopDispatch", "heard", "(II)I"⟩, prog_1_method_12_code, 3, some (.int)) := ⟨wd109, plainFor_of_name pl10.1, wd99, pl10.2.1, pl10.2.2, by decide⟩
theorem wd110 : Cond.code ⟨"GallopDispatch", "count", "(I)I"⟩ prog_1_method_13_code 2 (Option.some FieldType.int) ∈ aWs := mT4 85 rfl rfl
set_option maxRecDepth 10000 in
theorem mi99 : aMI 99 = some (⟨"GallopDispatch", "count", "(I)I"⟩, prog_1_method_13_code, 2, some (.int)) := rfl
theorem mo99 : mQ (⟨"GallopDispatch", "count", "(I)I"⟩, prog_1_method_13_code, 2, some (.int)) := ⟨wd110, plainFor_of_name pl10.1, wd99, pl10.2.1, pl10.2.2, by decide⟩
theorem wd111 : Cond.code ⟨"GallopDispatch", "gloryOfAll", "()I"⟩ prog_1_method_14_code 3 (Option.some FieldType.int) ∈ aWs := mT4 89 rfl rfl
set_option maxRecDepth 10000 in
theorem mi100 : aMI 100 = some (⟨"GallopDispatch", "gloryOfAll", "()I"⟩, prog_1_method_14_code, 3, some (.int)) := rfl
theorem mo100 : mQ (⟨"GallopDispatch", "gloryOfAll", "()I"⟩, prog_1_method_14_code, 3, some (.int)) := ⟨wd111, plainFor_of_name pl10.1, wd99, pl10.2.1, pl10.2.2, by decide⟩
theorem wd112 : Cond.code ⟨"GallopDispatch", "noRide", "()Z"⟩ prog_1_method_15_code 1 (Option.some FieldType.boolean) ∈ aWs := mT4 8 rfl rfl
set_option maxRecDepth 10000 in
theorem mi101 : aMI 101 = some (⟨"GallopDispatch", "noRide", "()Z"⟩, prog_1_method_15_code, 1, some (.boolean)) := rfl
theorem mo101 : mQ (⟨"GallopDispatch", "noRide", "()Z"⟩, prog_1_method_15_code, 1, some (.boolean)) := ⟨wd112, plainFor_of_name pl10.1, wd99, pl10.2.1, pl10.2.2, by decide⟩
theorem wd113 : Cond.code ⟨"GallopDispatch", "isMan", "(I)Z"⟩ prog_1_method_16_code 2 (Option.some FieldType.boolean) ∈ aWs := mT4 36 rfl rfl
set_option maxRecDepth 10000 in
theorem mi102 : aMI 102 = some (⟨"GallopDispatch", "isMan", "(I)Z"⟩, prog_1_method_16_code, 2, some (.boolean)) := rfl
theorem mo102 : mQ (⟨"GallopDispatch", "isMan", "(I)Z"⟩, prog_1_method_16_code, 2, some (.boolean)) := ⟨wd113, plainFor_of_name pl10.1, wd99, pl10.2.1, pl10.2.2, by decide⟩
theorem wd114 : Cond.code ⟨"GallopDispatch", "isFord", "(I)Z"⟩ prog_1_method_17_code 2 (Option.some FieldType.boolean) ∈ aWs := mT4 24 rfl rfl
set_option maxRecDepth 10000 in
theorem mi103 : aMI 103 = some (⟨"GallopDispatch", "isFord", "(I)Z"⟩, prog_1_method_17_code, 2, some (.boolean)) := rfl
theorem mo103 : mQ (⟨"GallopDispatch", "isFord", "(I)Z"⟩, prog_1_method_17_code, 2, some (.boolean)) := ⟨wd114, plainFor_of_name pl10.1, wd99, pl10.2.1, pl10.2.2, by decide⟩
theorem wd115 : Cond.code ⟨"GallopDispatch", "isStep", "(I)Z"⟩ prog_1_method_18_code 2 (Option.some FieldType.boolean) ∈ aWs := mT4 40 rfl rfl
set_option maxRecDepth 10000 in
theorem mi104 : aMI 104 = some (⟨"GallopDispatch", "isStep", "(I)Z"⟩, prog_1_method_18_code, 2, some (.boolean)) := rfl
theorem mo104 : mQ (⟨"GallopDispatch", "isStep", "(I)Z"⟩, prog_1_method_18_code, 2, some (.boolean)) := ⟨wd115, plainFor_of_name pl10.1, wd99, pl10.2.1, pl10.2.2, by decide⟩
theorem wd116 : Cond.code ⟨"GallopDispatch", "roadLength", "()I"⟩ prog_1_method_19_code 1 (Option.some FieldType.int) ∈ aWs := mT4 12 rfl rfl
set_option maxRecDepth 10000 in
theorem mi105 : aMI 105 = some (⟨"GallopDispatch", "roadLength", "()I"⟩, prog_1_method_19_code, 1, some (.int)) := rfl
theorem mo105 : mQ (⟨"GallopDispatch", "roadLength", "()I"⟩, prog_1_method_19_code, 1, some (.int)) := ⟨wd116, plainFor_of_name pl10.1, wd99, pl10.2.1, pl10.2.2, by decide⟩
theorem wd117 : Cond.code ⟨"GallopDispatch", "room", "()I"⟩ prog_1_method_20_code 1 (Option.some FieldType.int) ∈ aWs := mT4 16 rfl rfl
set_option maxRecDepth 10000 in
theorem mi106 : aMI 106 = some (⟨"GallopDispatch", "room", "()I"⟩, prog_1_method_20_code, 1, some (.int)) := rfl
theorem mo106 : mQ (⟨"GallopDispatch", "room", "()I"⟩, prog_1_method_20_code, 1, some (.int)) := ⟨wd117, plainFor_of_name pl10.1, wd99, pl10.2.1, pl10.2.2, by decide⟩
theorem wd118 : Cond.code ⟨"GallopDispatch", "move", "(II)I"⟩ prog_1_method_21_code 4 (Option.some FieldType.int) ∈ aWs := mT4 106 rfl rfl
set_option maxRecDepth 10000 in
theorem mi107 : aMI 107 = some (⟨"GallopDispatch", "move", "(II)I"⟩, prog_1_method_21_code, 4, some (.int)) := rfl
theorem mo107 : mQ (⟨"GallopDispatch", "move", "(II)I"⟩, prog_1_method_21_code, 4, some (.int)) := ⟨wd118, plainFor_of_name pl10.1, wd99, pl10.2.1, pl10.2.2, by decide⟩
theorem wd119 : Cond.code ⟨"GallopDispatch", "voice", "(II)I"⟩ prog_1_method_22_code 3 (Option.some FieldType.int) ∈ aWs := mT4 121 rfl rfl
set_option maxRecDepth 10000 in
theorem mi108 : aMI 108 = some (⟨"GallopDispatch", "voice", "(II)I"⟩, prog_1_method_22_code, 3, some (.int)) := rfl
theorem mo108 : mQ (⟨"GallopDispatch", "voice", "(II)I"⟩, prog_1_method_22_code, 3, some (.int)) := ⟨wd119, plainFor_of_name pl10.1, wd99, pl10.2.1, pl10.2.2, by decide⟩
theorem wd120 : Cond.code ⟨"GallopDispatch", "deed", "(I)I"⟩ prog_1_method_23_code 2 (Option.some FieldType.int) ∈ aWs := mT4 125 rfl rfl
set_option maxRecDepth 10000 in
theorem mi109 : aMI 109 = some (⟨"GallopDispatch", "deed", "(I)I"⟩, prog_1_method_23_code, 2, some (.int)) := rfl
theorem mo109 : mQ (⟨"GallopDispatch", "deed", "(I)I"⟩, prog_1_method_23_code, 2, some (.int)) := ⟨wd120, plainFor_of_name pl10.1, wd99, pl10.2.1, pl10.2.2, by decide⟩
theorem wd121 : Cond.code ⟨"GallopDispatch", "feedHorse", "(Z)I"⟩ prog_1_method_24_code 3 (Option.some FieldType.int) ∈ aWs := mT4 129 rfl rfl
set_option maxRecDepth 10000 in
theorem mi110 : aMI 110 = some (⟨"GallopDispatch", "feedHorse", "(Z)I"⟩, prog_1_method_24_code, 3, some (.int)) := rfl
theorem mo110 : mQ (⟨"GallopDispatch", "feedHorse", "(Z)I"⟩, prog_1_method_24_code, 3, some (.int)) := ⟨wd121, plainFor_of_name pl10.1, wd99, pl10.2.1, pl10.2.2, by decide⟩
theorem wd122 : Cond.code ⟨"GallopDispatch", "fill", "(I)I"⟩ prog_1_method_25_code 2 (Option.some FieldType.int) ∈ aWs := mT4 133 rfl rfl
set_option maxRecDepth 10000 in
theorem mi111 : aMI 111 = some (⟨"GallopDispatch", "fill", "(I)I"⟩, prog_1_method_25_code, 2, some (.int)) := rfl
theorem mo111 : mQ (⟨"GallopDispatch", "fill", "(I)I"⟩, prog_1_method_25_code, 2, some (.int)) := ⟨wd122, plainFor_of_name pl10.1, wd99, pl10.2.1, pl10.2.2, by decide⟩
theorem wd123 : Cond.code ⟨"GallopDispatch", "rain", "(I)I"⟩ prog_1_method_26_code 3 (Option.some FieldType.int) ∈ aWs := mT4 137 rfl rfl
set_option maxRecDepth 10000 in
theorem mi112 : aMI 112 = some (⟨"GallopDispatch", "rain", "(I)I"⟩, prog_1_method_26_code, 3, some (.int)) := rfl
theorem mo112 : mQ (⟨"GallopDispatch", "rain", "(I)I"⟩, prog_1_method_26_code, 3, some (.int)) := ⟨wd123, plainFor_of_name pl10.1, wd99, pl10.2.1, pl10.2.2, by decide⟩
theorem wd124 : Cond.code ⟨"GallopDispatch", "days", "(I)I"⟩ prog_1_method_27_code 3 (Option.some FieldType.int) ∈ aWs := mT4 141 rfl rfl
set_option maxRecDepth 10000 in
theorem mi113 : aMI 113 = some (⟨"GallopDispatch", "days", "(I)I"⟩, prog_1_method_27_code, 3, some (.int)) := rfl
theorem mo113 : mQ (⟨"GallopDispatch", "days", "(I)I"⟩, prog_1_method_27_code, 3, some (.int)) := ⟨wd124, plainFor_of_name pl10.1, wd99, pl10.2.1, pl10.2.2, by decide⟩
theorem wd125 : Cond.code ⟨"GallopDispatch", "storm", "(I)Z"⟩ prog_1_method_28_code 2 (Option.some FieldType.boolean) ∈ aWs := mT4 198 rfl rfl
set_option maxRecDepth 10000 in
theorem mi114 : aMI 114 = some (⟨"GallopDispatch", "storm", "(I)Z"⟩, prog_1_method_28_code, 2, some (.boolean)) := rfl
theorem mo114 : mQ (⟨"GallopDispatch", "storm", "(I)Z"⟩, prog_1_method_28_code, 2, some (.boolean)) := ⟨wd125, plainFor_of_name pl10.1, wd99, pl10.2.1, pl10.2.2, by decide⟩
theorem wd126 : Cond.code ⟨"GallopDispatch", "years", "(IJ)I"⟩ prog_1_method_29_code 7 (Option.some FieldType.int) ∈ aWs := mT4 202 rfl rfl
set_option maxRecDepth 10000 in
theorem mi115 : aMI 115 = some (⟨"GallopDispatch", "years", "(IJ)I"⟩, prog_1_method_29_code, 7, some (.int)) := rfl
theorem mo115 : mQ (⟨"GallopDispatch", "years", "(IJ)I"⟩, prog_1_method_29_code, 7, some (.int)) := ⟨wd126, plainFor_of_name pl10.1, wd99, pl10.2.1, pl10.2.2, by decide⟩
theorem wd127 : Cond.code ⟨"GallopDispatch", "status", "(I)I"⟩ prog_1_method_30_code 2 (Option.some FieldType.int) ∈ aWs := mT4 218 rfl rfl
set_option maxRecDepth 10000 in
theorem mi116 : aMI 116 = some (⟨"GallopDispatch", "status", "(I)I"⟩, prog_1_method_30_code, 2, some (.int)) := rfl
theorem mo116 : mQ (⟨"GallopDispatch", "status", "(I)I"⟩, prog_1_method_30_code, 2, some (.int)) := ⟨wd127, plainFor_of_name pl10.1, wd99, pl10.2.1, pl10.2.2, by decide⟩
theorem wd128 : Cond.code ⟨"GallopDispatch", "undo", "()I"⟩ prog_1_method_31_code 1 (Option.some FieldType.int) ∈ aWs := mT4 222 rfl rfl
set_option maxRecDepth 10000 in
theorem mi117 : aMI 117 = some (⟨"GallopDispatch", "undo", "()I"⟩, prog_1_method_31_code, 1, some (.int)) := rfl
theorem mo117 : mQ (⟨"GallopDispatch", "undo", "()I"⟩, prog_1_method_31_code, 1, some (.int)) := ⟨wd128, plainFor_of_name pl10.1, wd99, pl10.2.1, pl10.2.2, by decide⟩
theorem wd129 : Cond.code ⟨"GallopDispatch", "log", "(II)I"⟩ prog_1_method_32_code 3 (Option.some FieldType.int) ∈ aWs := mT4 230 rfl rfl
set_option maxRecDepth 10000 in
theorem mi118 : aMI 118 = some (⟨"GallopDispatch", "log", "(II)I"⟩, prog_1_method_32_code, 3, some (.int)) := rfl
theorem mo118 : mQ (⟨"GallopDispatch", "log", "(II)I"⟩, prog_1_method_32_code, 3, some (.int)) := ⟨wd129, plainFor_of_name pl10.1, wd99, pl10.2.1, pl10.2.2, by decide⟩
theorem wd130 : Cond.code ⟨"GallopDispatch", "image", "()I"⟩ prog_1_method_33_code 1 (Option.some FieldType.int) ∈ aWs := mT4 238 rfl rfl
set_option maxRecDepth 10000 in
theorem mi119 : aMI 119 = some (⟨"GallopDispatch", "image", "()I"⟩, prog_1_method_33_code, 1, some (.int)) := rfl
theorem mo119 : mQ (⟨"GallopDispatch", "image", "()I"⟩, prog_1_method_33_code, 1, some (.int)) := ⟨wd130, plainFor_of_name pl10.1, wd99, pl10.2.1, pl10.2.2, by decide⟩
theorem wd131 : Cond.code ⟨"GallopDispatch", "back", "()I"⟩ prog_1_method_34_code 1 (Option.some FieldType.int) ∈ aWs := mT5 7 rfl rfl
set_option maxRecDepth 10000 in
theorem mi120 : aMI 120 = some (⟨"GallopDispatch", "back", "()I"⟩, prog_1_method_34_code, 1, some (.int)) := rfl
theorem mo120 : mQ (⟨"GallopDispatch", "back", "()I"⟩, prog_1_method_34_code, 1, some (.int)) := ⟨wd131, plainFor_of_name pl10.1, wd99, pl10.2.1, pl10.2.2, by decide⟩
theorem wd132 : Cond.code ⟨"GallopDispatch", "refuse", "(I)I"⟩ prog_1_method_35_code 2 (Option.some FieldType.int) ∈ aWs := mT4 110 rfl rfl
set_option maxRecDepth 10000 in
theorem mi121 : aMI 121 = some (⟨"GallopDispatch", "refuse", "(I)I"⟩, prog_1_method_35_code, 2, some (.int)) := rfl
theorem mo121 : mQ (⟨"GallopDispatch", "refuse", "(I)I"⟩, prog_1_method_35_code, 2, some (.int)) := ⟨wd132, plainFor_of_name pl10.1, wd99, pl10.2.1, pl10.2.2, by decide⟩
theorem wd133 : Cond.code ⟨"GallopDispatch", "closeDay", "()V"⟩ prog_1_method_36_code 2 (Option.none : Option Jvm.ClassFile.FieldType) ∈ aWs := mT4 177 rfl rfl
set_option maxRecDepth 10000 in
theorem mi122 : aMI 122 = some (⟨"GallopDispatch", "closeDay", "()V"⟩, prog_1_method_36_code, 2, none) := rfl
theorem mo122 : mQ (⟨"GallopDispatch", "closeDay", "()V"⟩, prog_1_method_36_code, 2, none) := ⟨wd133, plainFor_of_name pl10.1, wd99, pl10.2.1, pl10.2.2, by decide⟩
theorem wd134 : Cond.code ⟨"GallopDispatch", "passChance", "(J)J"⟩ prog_1_method_37_code 6 (Option.some FieldType.long) ∈ aWs := mT4 206 rfl rfl
set_option maxRecDepth 10000 in
theorem mi123 : aMI 123 = some (⟨"GallopDispatch", "passChance", "(J)J"⟩, prog_1_method_37_code, 6, some (.long)) := rfl
theorem mo123 : mQ (⟨"GallopDispatch", "passChance", "(J)J"⟩, prog_1_method_37_code, 6, some (.long)) := ⟨wd134, plainFor_of_name pl10.1, wd99, pl10.2.1, pl10.2.2, by decide⟩
theorem wd135 : Cond.code ⟨"GallopDispatch", "nextDraw", "(J)J"⟩ prog_1_method_38_code 2 (Option.some FieldType.long) ∈ aWs := mT4 209 rfl rfl
set_option maxRecDepth 10000 in
theorem mi124 : aMI 124 = some (⟨"GallopDispatch", "nextDraw", "(J)J"⟩, prog_1_method_38_code, 2, some (.long)) := rfl
theorem mo124 : mQ (⟨"GallopDispatch", "nextDraw", "(J)J"⟩, prog_1_method_38_code, 2, some (.long)) := ⟨wd135, plainFor_of_name pl10.1, wd99, pl10.2.1, pl10.2.2, by decide⟩
theorem wd136 : Cond.code ⟨"GallopDispatch", "drawn", "(JI)I"⟩ prog_1_method_39_code 3 (Option.some FieldType.int) ∈ aWs := mT4 214 rfl rfl
set_option maxRecDepth 10000 in
theorem mi125 : aMI 125 = some (⟨"GallopDispatch", "drawn", "(JI)I"⟩, prog_1_method_39_code, 3, some (.int)) := rfl
theorem mo125 : mQ (⟨"GallopDispatch", "drawn", "(JI)I"⟩, prog_1_method_39_code, 3, some (.int)) := ⟨wd136, plainFor_of_name pl10.1, wd99, pl10.2.1, pl10.2.2, by decide⟩
theorem wd137 : Cond.code ⟨"GallopDispatch", "setCourse", "()V"⟩ prog_1_method_40_code 1 (Option.none : Option Jvm.ClassFile.FieldType) ∈ aWs := mT4 44 rfl rfl
set_option maxRecDepth 10000 in
theorem mi126 : aMI 126 = some (⟨"GallopDispatch", "setCourse", "()V"⟩, prog_1_method_40_code, 1, none) := rfl
theorem mo126 : mQ (⟨"GallopDispatch", "setCourse", "()V"⟩, prog_1_method_40_code, 1, none) := ⟨wd137, plainFor_of_name pl10.1, wd99, pl10.2.1, pl10.2.2, by decide⟩
theorem wd138 : Cond.code ⟨"GallopDispatch", "lawThatHolds", "()LGallopDispatch$Law;"⟩ prog_1_method_41_code 1 (Option.some (FieldType.object "GallopDispatch$Law")) ∈ aWs := mT4 48 rfl rfl
set_option maxRecDepth 10000 in
theorem mi127 : aMI 127 = some (⟨"GallopDispatch", "lawThatHolds", "()LGallopDispatch$Law;"⟩, prog_1_method_41_code, 1, some (.object "GallopDispatch$Law")) := rfl
theorem mo127 : mQ (⟨"GallopDispatch", "lawThatHolds", "()LGallopDispatch$Law;"⟩, prog_1_method_41_code, 1, some (.object "GallopDispatch$Law")) := ⟨wd138, plainFor_of_name pl10.1, wd99, pl10.2.1, pl10.2.2, by decide⟩
theorem wd139 : Cond.code ⟨"GallopDispatch", "hearNow", "()V"⟩ prog_1_method_42_code 1 (Option.none : Option Jvm.ClassFile.FieldType) ∈ aWs := mT4 149 rfl rfl
set_option maxRecDepth 10000 in
theorem mi128 : aMI 128 = some (⟨"GallopDispatch", "hearNow", "()V"⟩, prog_1_method_42_code, 1, none) := rfl
theorem mo128 : mQ (⟨"GallopDispatch", "hearNow", "()V"⟩, prog_1_method_42_code, 1, none) := ⟨wd139, plainFor_of_name pl10.1, wd99, pl10.2.1, pl10.2.2, by decide⟩
theorem wd140 : Cond.code ⟨"GallopDispatch", "rideNow", "()V"⟩ prog_1_method_43_code 1 (Option.none : Option Jvm.ClassFile.FieldType) ∈ aWs := mT4 145 rfl rfl
set_option maxRecDepth 10000 in
theorem mi129 : aMI 129 = some (⟨"GallopDispatch", "rideNow", "()V"⟩, prog_1_method_43_code, 1, none) := rfl
theorem mo129 : mQ (⟨"GallopDispatch", "rideNow", "()V"⟩, prog_1_method_43_code, 1, none) := ⟨wd140, plainFor_of_name pl10.1, wd99, pl10.2.1, pl10.2.2, by decide⟩
theorem wd141 : Cond.code ⟨"GallopDispatch", "words", "(I)I"⟩ prog_1_method_44_code 2 (Option.some FieldType.int) ∈ aWs := mT5 11 rfl rfl
set_option maxRecDepth 10000 in
theorem mi130 : aMI 130 = some (⟨"GallopDispatch", "words", "(I)I"⟩, prog_1_method_44_code, 2, some (.int)) := rfl
theorem mo130 : mQ (⟨"GallopDispatch", "words", "(I)I"⟩, prog_1_method_44_code, 2, some (.int)) := ⟨wd141, plainFor_of_name pl10.1, wd99, pl10.2.1, pl10.2.2, by decide⟩
theorem wd142 : Cond.code ⟨"GallopDispatch", "mentions", "(I)I"⟩ prog_1_method_45_code 2 (Option.some FieldType.int) ∈ aWs := mT5 19 rfl rfl
set_option maxRecDepth 10000 in
theorem mi131 : aMI 131 = some (⟨"GallopDispatch", "mentions", "(I)I"⟩, prog_1_method_45_code, 2, some (.int)) := rfl
theorem mo131 : mQ (⟨"GallopDispatch", "mentions", "(I)I"⟩, prog_1_method_45_code, 2, some (.int)) := ⟨wd142, plainFor_of_name pl10.1, wd99, pl10.2.1, pl10.2.2, by decide⟩
theorem wd143 : Cond.code ⟨"GallopDispatch", "ride", "(I)I"⟩ prog_1_method_46_code 2 (Option.some FieldType.int) ∈ aWs := mT5 23 rfl rfl
set_option maxRecDepth 10000 in
theorem mi132 : aMI 132 = some (⟨"GallopDispatch", "ride", "(I)I"⟩, prog_1_method_46_code, 2, some (.int)) := rfl
theorem mo132 : mQ (⟨"GallopDispatch", "ride", "(I)I"⟩, prog_1_method_46_code, 2, some (.int)) := ⟨wd143, plainFor_of_name pl10.1, wd99, pl10.2.1, pl10.2.2, by decide⟩
theorem wd144 : Cond.code ⟨"GallopDispatch", "travelTime", "()I"⟩ prog_1_method_47_code 3 (Option.some FieldType.int) ∈ aWs := mT5 39 rfl rfl
set_option maxRecDepth 10000 in
theorem mi133 : aMI 133 = some (⟨"GallopDispatch", "travelTime", "()I"⟩, prog_1_method_47_code, 3, some (.int)) := rfl
theorem mo133 : mQ (⟨"GallopDispatch", "travelTime", "()I"⟩, prog_1_method_47_code, 3, some (.int)) := ⟨wd144, plainFor_of_name pl10.1, wd99, pl10.2.1, pl10.2.2, by decide⟩
theorem wd145 : Cond.code ⟨"GallopDispatch", "stand", "(II)I"⟩ prog_1_method_48_code 6 (Option.some FieldType.int) ∈ aWs := mT5 44 rfl rfl
set_option maxRecDepth 10000 in
theorem mi134 : aMI 134 = some (⟨"GallopDispatch", "stand", "(II)I"⟩, prog_1_method_48_code, 6, some (.int)) := rfl
theorem mo134 : mQ (⟨"GallopDispatch", "stand", "(II)I"⟩, prog_1_method_48_code, 6, some (.int)) := ⟨wd145, plainFor_of_name pl10.1, wd99, pl10.2.1, pl10.2.2, by decide⟩
theorem wd146 : Cond.code ⟨"GallopDispatch", "gait", "(II)I"⟩ prog_1_method_49_code 6 (Option.some FieldType.int) ∈ aWs := mT5 53 rfl rfl
set_option maxRecDepth 10000 in
theorem mi135 : aMI 135 = some (⟨"GallopDispatch", "gait", "(II)I"⟩, prog_1_method_49_code, 6, some (.int)) := rfl
theorem mo135 : mQ (⟨"GallopDispatch", "gait", "(II)I"⟩, prog_1_method_49_code, 6, some (.int)) := ⟨wd146, plainFor_of_name pl10.1, wd99, pl10.2.1, pl10.2.2, by decide⟩
theorem wd147 : Cond.code ⟨"GallopDispatch", "put", "(I)I"⟩ prog_1_method_50_code 7 (Option.some FieldType.int) ∈ aWs := mT5 61 rfl rfl
set_option maxRecDepth 10000 in
theorem mi136 : aMI 136 = some (⟨"GallopDispatch", "put", "(I)I"⟩, prog_1_method_50_code, 7, some (.int)) := rfl
theorem mo136 : mQ (⟨"GallopDispatch", "put", "(I)I"⟩, prog_1_method_50_code, 7, some (.int)) := ⟨wd147, plainFor_of_name pl10.1, wd99, pl10.2.1, pl10.2.2, by decide⟩
theorem wd148 : Cond.code ⟨"GallopDispatch", "least", "(I)I"⟩ prog_1_method_51_code 3 (Option.some FieldType.int) ∈ aWs := mT5 65 rfl rfl
set_option maxRecDepth 10000 in
theorem mi137 : aMI 137 = some (⟨"GallopDispatch", "least", "(I)I"⟩, prog_1_method_51_code, 3, some (.int)) := rfl
theorem mo137 : mQ (⟨"GallopDispatch", "least", "(I)I"⟩, prog_1_method_51_code, 3, some (.int)) := ⟨wd148, plainFor_of_name pl10.1, wd99, pl10.2.1, pl10.2.2, by decide⟩
theorem wd149 : Cond.code ⟨"GallopDispatch", "seen", "(IIZ)I"⟩ prog_1_method_52_code 4 (Option.some FieldType.int) ∈ aWs := mT5 73 rfl rfl
set_option maxRecDepth 10000 in
theorem mi138 : aMI 138 = some (⟨"GallopDispatch", "seen", "(IIZ)I"⟩, prog_1_method_52_code, 4, some (.int)) := rfl
theorem mo138 : mQ (⟨"GallopDispatch", "seen", "(IIZ)I"⟩, prog_1_method_52_code, 4, some (.int)) := ⟨wd149, plainFor_of_name pl10.1, wd99, pl10.2.1, pl10.2.2, by decide⟩
theorem wd150 : Cond.code ⟨"GallopDispatch", "who", "(II)I"⟩ prog_1_method_53_code 3 (Option.some FieldType.int) ∈ aWs := mT5 81 rfl rfl
set_option maxRecDepth 10000 in
theorem mi139 : aMI 139 = some (⟨"GallopDispatch", "who", "(II)I"⟩, prog_1_method_53_code, 3, some (.int)) := rfl
theorem mo139 : mQ (⟨"GallopDispatch", "who", "(II)I"⟩, prog_1_method_53_code, 3, some (.int)) := ⟨wd150, plainFor_of_name pl10.1, wd99, pl10.2.1, pl10.2.2, by decide⟩
theorem wd151 : Cond.code ⟨"GallopDispatch", "best", "(I)I"⟩ prog_1_method_54_code 2 (Option.some FieldType.int) ∈ aWs := mT5 106 rfl rfl
set_option maxRecDepth 10000 in
theorem mi140 : aMI 140 = some (⟨"GallopDispatch", "best", "(I)I"⟩, prog_1_method_54_code, 2, some (.int)) := rfl
theorem mo140 : mQ (⟨"GallopDispatch", "best", "(I)I"⟩, prog_1_method_54_code, 2, some (.int)) := ⟨wd151, plainFor_of_name pl10.1, wd99, pl10.2.1, pl10.2.2, by decide⟩
theorem wd152 : Cond.code ⟨"GallopDispatch", "weighSightings", "(I)V"⟩ prog_1_method_55_code 3 (Option.none : Option Jvm.ClassFile.FieldType) ∈ aWs := mT5 85 rfl rfl
set_option maxRecDepth 10000 in
theorem mi141 : aMI 141 = some (⟨"GallopDispatch", "weighSightings", "(I)V"⟩, prog_1_method_55_code, 3, none) := rfl
theorem mo141 : mQ (⟨"GallopDispatch", "weighSightings", "(I)V"⟩, prog_1_method_55_code, 3, none) := ⟨wd152, plainFor_of_name pl10.1, wd99, pl10.2.1, pl10.2.2, by decide⟩
theorem wd153 : Cond.code ⟨"GallopDispatch", "pension", "(III)I"⟩ prog_1_method_56_code 4 (Option.some FieldType.int) ∈ aWs := mT5 119 rfl rfl
set_option maxRecDepth 10000 in
theorem mi142 : aMI 142 = some (⟨"GallopDispatch", "pension", "(III)I"⟩, prog_1_method_56_code, 4, some (.int)) := rfl
theorem mo142 : mQ (⟨"GallopDispatch", "pension", "(III)I"⟩, prog_1_method_56_code, 4, some (.int)) := ⟨wd153, plainFor_of_name pl10.1, wd99, pl10.2.1, pl10.2.2, by decide⟩
theorem wd154 : Cond.code ⟨"GallopDispatch", "unfair", "(I)I"⟩ prog_1_method_57_code 4 (Option.some FieldType.int) ∈ aWs := mT5 127 rfl rfl
set_option maxRecDepth 10000 in
theorem mi143 : aMI 143 = some (⟨"GallopDispatch", "unfair", "(I)I"⟩, prog_1_method_57_code, 4, some (.int)) := rfl
theorem mo143 : mQ (⟨"GallopDispatch", "unfair", "(I)I"⟩, prog_1_method_57_code, 4, some (.int)) := ⟨wd154, plainFor_of_name pl10.1, wd99, pl10.2.1, pl10.2.2, by decide⟩
theorem wd155 : Cond.code ⟨"GallopDispatch", "share", "([III)I"⟩ prog_1_method_58_code 6 (Option.some FieldType.int) ∈ aWs := mT5 123 rfl rfl
set_option maxRecDepth 10000 in
theorem mi144 : aMI 144 = some (⟨"GallopDispatch", "share", "([III)I"⟩, prog_1_method_58_code, 6, some (.int)) := rfl
theorem mo144 : mQ (⟨"GallopDispatch", "share", "([III)I"⟩, prog_1_method_58_code, 6, some (.int)) := ⟨wd155, plainFor_of_name pl10.1, wd99, pl10.2.1, pl10.2.2, by decide⟩
theorem wd156 : Cond.code ⟨"GallopDispatch", "game", "(IIIII)I"⟩ prog_1_method_59_code 6 (Option.some FieldType.int) ∈ aWs := mT5 131 rfl rfl
set_option maxRecDepth 10000 in
theorem mi145 : aMI 145 = some (⟨"GallopDispatch", "game", "(IIIII)I"⟩, prog_1_method_59_code, 6, some (.int)) := rfl
theorem mo145 : mQ (⟨"GallopDispatch", "game", "(IIIII)I"⟩, prog_1_method_59_code, 6, some (.int)) := ⟨wd156, plainFor_of_name pl10.1, wd99, pl10.2.1, pl10.2.2, by decide⟩
theorem wd157 : Cond.code ⟨"GallopDispatch", "rests", "(III)I"⟩ prog_1_method_60_code 6 (Option.some FieldType.int) ∈ aWs := mT5 143 rfl rfl
set_option maxRecDepth 10000 in
theorem mi146 : aMI 146 = some (⟨"GallopDispatch", "rests", "(III)I"⟩, prog_1_method_60_code, 6, some (.int)) := rfl
theorem mo146 : mQ (⟨"GallopDispatch", "rests", "(III)I"⟩, prog_1_method_60_code, 6, some (.int)) := ⟨wd157, plainFor_of_name pl10.1, wd99, pl10.2.1, pl10.2.2, by decide⟩
theorem wd158 : Cond.code ⟨"GallopDispatch", "areTwo", "(II)Z"⟩ prog_1_method_61_code 3 (Option.some FieldType.boolean) ∈ aWs := mT5 135 rfl rfl
set_option maxRecDepth 10000 in
theorem mi147 : aMI 147 = some (⟨"GallopDispatch", "areTwo", "(II)Z"⟩, prog_1_method_61_code, 3, some (.boolean)) := rfl
theorem mo147 : mQ (⟨"GallopDispatch", "areTwo", "(II)Z"⟩, prog_1_method_61_code, 3, some (.boolean)) := ⟨wd158, plainFor_of_name pl10.1, wd99, pl10.2.1, pl10.2.2, by decide⟩
theorem wd159 : Cond.code ⟨"GallopDispatch", "shouting", "(II)I"⟩ prog_1_method_62_code 3 (Option.some FieldType.int) ∈ aWs := mT5 139 rfl rfl
set_option maxRecDepth 10000 in
theorem mi148 : aMI 148 = some (⟨"GallopDispatch", "shouting", "(II)I"⟩, prog_1_method_62_code, 3, some (.int)) := rfl
theorem mo148 : mQ (⟨"GallopDispatch", "shouting", "(II)I"⟩, prog_1_method_62_code, 3, some (.int)) := ⟨wd159, plainFor_of_name pl10.1, wd99, pl10.2.1, pl10.2.2, by decide⟩
theorem wd160 : Cond.code ⟨"GallopDispatch", "playAll", "(II)V"⟩ prog_1_method_63_code 6 (Option.none : Option Jvm.ClassFile.FieldType) ∈ aWs := mT5 147 rfl rfl
set_option maxRecDepth 10000 in
theorem mi149 : aMI 149 = some (⟨"GallopDispatch", "playAll", "(II)V"⟩, prog_1_method_63_code, 6, none) := rfl
theorem mo149 : mQ (⟨"GallopDispatch", "playAll", "(II)V"⟩, prog_1_method_63_code, 6, none) := ⟨wd160, plainFor_of_name pl10.1, wd99, pl10.2.1, pl10.2.2, by decide⟩
theorem wd161 : Cond.code ⟨"GallopDispatch", "isRest", "(I)Z"⟩ prog_1_method_64_code 6 (Option.some FieldType.boolean) ∈ aWs := mT5 151 rfl rfl
set_option maxRecDepth 10000 in
theorem mi150 : aMI 150 = some (⟨"GallopDispatch", "isRest", "(I)Z"⟩, prog_1_method_64_code, 6, some (.boolean)) := rfl
theorem mo150 : mQ (⟨"GallopDispatch", "isRest", "(I)Z"⟩, prog_1_method_64_code, 6, some (.boolean)) := ⟨wd161, plainFor_of_name pl10.1, wd99, pl10.2.1, pl10.2.2, by decide⟩
theorem wd162 : Cond.code ⟨"GallopDispatch", "odds", "(II)I"⟩ prog_1_method_65_code 3 (Option.some FieldType.int) ∈ aWs := mT5 155 rfl rfl
set_option maxRecDepth 10000 in
theorem mi151 : aMI 151 = some (⟨"GallopDispatch", "odds", "(II)I"⟩, prog_1_method_65_code, 3, some (.int)) := rfl
theorem mo151 : mQ (⟨"GallopDispatch", "odds", "(II)I"⟩, prog_1_method_65_code, 3, some (.int)) := ⟨wd162, plainFor_of_name pl10.1, wd99, pl10.2.1, pl10.2.2, by decide⟩
theorem wd163 : Cond.code ⟨"GallopDispatch", "loudest", "(I)I"⟩ prog_1_method_66_code 2 (Option.some FieldType.int) ∈ aWs := mT5 168 rfl rfl
set_option maxRecDepth 10000 in
theorem mi152 : aMI 152 = some (⟨"GallopDispatch", "loudest", "(I)I"⟩, prog_1_method_66_code, 2, some (.int)) := rfl
theorem mo152 : mQ (⟨"GallopDispatch", "loudest", "(I)I"⟩, prog_1_method_66_code, 2, some (.int)) := ⟨wd163, plainFor_of_name pl10.1, wd99, pl10.2.1, pl10.2.2, by decide⟩
theorem wd164 : Cond.code ⟨"GallopDispatch", "span", "(I)I"⟩ prog_1_method_67_code 4 (Option.some FieldType.int) ∈ aWs := mT5 177 rfl rfl
set_option maxRecDepth 10000 in
theorem mi153 : aMI 153 = some (⟨"GallopDispatch", "span", "(I)I"⟩, prog_1_method_67_code, 4, some (.int)) := rfl
theorem mo153 : mQ (⟨"GallopDispatch", "span", "(I)I"⟩, prog_1_method_67_code, 4, some (.int)) := ⟨wd164, plainFor_of_name pl10.1, wd99, pl10.2.1, pl10.2.2, by decide⟩
theorem wd165 : Cond.code ⟨"GallopDispatch", "nearest", "(I)I"⟩ prog_1_method_68_code 4 (Option.some FieldType.int) ∈ aWs := mT5 181 rfl rfl
set_option maxRecDepth 10000 in
theorem mi154 : aMI 154 = some (⟨"GallopDispatch", "nearest", "(I)I"⟩, prog_1_method_68_code, 4, some (.int)) := rfl
theorem mo154 : mQ (⟨"GallopDispatch", "nearest", "(I)I"⟩, prog_1_method_68_code, 4, some (.int)) := ⟨wd165, plainFor_of_name pl10.1, wd99, pl10.2.1, pl10.2.2, by decide⟩
theorem wd166 : Cond.code ⟨"GallopDispatch", "most", "(I)I"⟩ prog_1_method_69_code 2 (Option.some FieldType.int) ∈ aWs := mT5 185 rfl rfl
set_option maxRecDepth 10000 in
theorem mi155 : aMI 155 = some (⟨"GallopDispatch", "most", "(I)I"⟩, prog_1_method_69_code, 2, some (.int)) := rfl
theorem mo155 : mQ (⟨"GallopDispatch", "most", "(I)I"⟩, prog_1_method_69_code, 2, some (.int)) := ⟨wd166, plainFor_of_name pl10.1, wd99, pl10.2.1, pl10.2.2, by decide⟩
theorem wd167 : Cond.code ⟨"GallopDispatch", "firstOfMost", "([II)I"⟩ prog_1_method_70_code 4 (Option.some FieldType.int) ∈ aWs := mT5 188 rfl rfl
set_option maxRecDepth 10000 in
theorem mi156 : aMI 156 = some (⟨"GallopDispatch", "firstOfMost", "([II)I"⟩, prog_1_method_70_code, 4, some (.int)) := rfl
theorem mo156 : mQ (⟨"GallopDispatch", "firstOfMost", "([II)I"⟩, prog_1_method_70_code, 4, some (.int)) := ⟨wd167, plainFor_of_name pl10.1, wd99, pl10.2.1, pl10.2.2, by decide⟩
theorem wd168 : Cond.code ⟨"GallopDispatch", "highest", "()I"⟩ prog_1_method_71_code 3 (Option.some FieldType.int) ∈ aWs := mT5 192 rfl rfl
set_option maxRecDepth 10000 in
theorem mi157 : aMI 157 = some (⟨"GallopDispatch", "highest", "()I"⟩, prog_1_method_71_code, 3, some (.int)) := rfl
theorem mo157 : mQ (⟨"GallopDispatch", "highest", "()I"⟩, prog_1_method_71_code, 3, some (.int)) := ⟨wd168, plainFor_of_name pl10.1, wd99, pl10.2.1, pl10.2.2, by decide⟩
theorem wd169 : Cond.code ⟨"GallopDispatch", "ahead", "(II)I"⟩ prog_1_method_72_code 6 (Option.some FieldType.int) ∈ aWs := mT5 196 rfl rfl
set_option maxRecDepth 10000 in
theorem mi158 : aMI 158 = some (⟨"GallopDispatch", "ahead", "(II)I"⟩, prog_1_method_72_code, 6, some (.int)) := rfl
theorem mo158 : mQ (⟨"GallopDispatch", "ahead", "(II)I"⟩, prog_1_method_72_code, 6, some (.int)) := ⟨wd169, plainFor_of_name pl10.1, wd99, pl10.2.1, pl10.2.2, by decide⟩
theorem wd170 : Cond.code ⟨"GallopDispatch", "copyRow", "([I[I)V"⟩ prog_1_method_73_code 2 (Option.none : Option Jvm.ClassFile.FieldType) ∈ aWs := mT2 191 rfl rfl
set_option maxRecDepth 10000 in
theorem mi159 : aMI 159 = some (⟨"GallopDispatch", "copyRow", "([I[I)V"⟩, prog_1_method_73_code, 2, none) := rfl
theorem mo159 : mQ (⟨"GallopDispatch", "copyRow", "([I[I)V"⟩, prog_1_method_73_code, 2, none) := ⟨wd170, plainFor_of_name pl10.1, wd99, pl10.2.1, pl10.2.2, by decide⟩
theorem wd171 : Cond.code ⟨"GallopDispatch", "placeOf", "(ILjava/lang/String;)I"⟩ prog_1_method_74_code 2 (Option.some FieldType.int) ∈ aWs := mT2 231 rfl rfl
set_option maxRecDepth 10000 in
theorem mi160 : aMI 160 = some (⟨"GallopDispatch", "placeOf", "(ILjava/lang/String;)I"⟩, prog_1_method_74_code, 2, some (.int)) := rfl
theorem mo160 : mQ (⟨"GallopDispatch", "placeOf", "(ILjava/lang/String;)I"⟩, prog_1_method_74_code, 2, some (.int)) := ⟨wd171, plainFor_of_name pl10.1, wd99, pl10.2.1, pl10.2.2, by decide⟩
theorem wd172 : Cond.code ⟨"GallopDispatchModel", "in", "(III)Z"⟩ prog_13_method_1_code 3 (Option.some FieldType.boolean) ∈ aWs := mT7 10 rfl rfl
theorem wd173 : Cond.initialized "GallopDispatchModel" ∈ aWs := mT1 12 rfl rfl
set_option maxRecDepth 10000 in
theorem mi161 : aMI 161 = some (⟨"GallopDispatchModel", "in", "(III)Z"⟩, prog_13_method_1_code, 3, some (.boolean)) := rfl
theorem mo161 : mQ (⟨"GallopDispatchModel", "in", "(III)Z"⟩, prog_13_method_1_code, 3, some (.boolean)) := ⟨wd172, plainFor_of_name pl11.1, wd173, pl11.2.1, pl11.2.2, by decide⟩
theorem wd174 : Cond.code ⟨"GallopDispatchModel", "has", "(II)Z"⟩ prog_13_method_2_code 2 (Option.some FieldType.boolean) ∈ aWs := mT6 230 rfl rfl
set_option maxRecDepth 10000 in
theorem mi162 : aMI 162 = some (⟨"GallopDispatchModel", "has", "(II)Z"⟩, prog_13_method_2_code, 2, some (.boolean)) := rfl
theorem mo162 : mQ (⟨"GallopDispatchModel", "has", "(II)Z"⟩, prog_13_method_2_code, 2, some (.boolean)) := ⟨wd174, plainFor_of_name pl11.1, wd173, pl11.2.1, pl11.2.2, by decide⟩
theorem wd175 : Cond.code ⟨"GallopDispatchModel", "<init>", "()V"⟩ prog_13_method_3_code 1 (Option.none : Option Jvm.ClassFile.FieldType) ∈ aWs := mT6 34 rfl rfl
set_option maxRecDepth 10000 in
theorem mi163 : aMI 163 = some (⟨"GallopDispatchModel", "<init>", "()V"⟩, prog_13_method_3_code, 1, none) := rfl
theorem mo163 : mQ (⟨"GallopDispatchModel", "<init>", "()V"⟩, prog_13_method_3_code, 1, none) := ⟨wd175, plainFor_of_name pl11.1, wd173, pl11.2.1, pl11.2.2, by decide⟩
theorem wd176 : Cond.code ⟨"GallopDispatchModel", "thrown", "()I"⟩ prog_13_method_4_code 1 (Option.some FieldType.int) ∈ aWs := mT6 190 rfl rfl
set_option maxRecDepth 10000 in
theorem mi164 : aMI 164 = some (⟨"GallopDispatchModel", "thrown", "()I"⟩, prog_13_method_4_code, 1, some (.int)) := rfl
theorem mo164 : mQ (⟨"GallopDispatchModel", "thrown", "()I"⟩, prog_13_method_4_code, 1, some (.int)) := ⟨wd176, plainFor_of_name pl11.1, wd173, pl11.2.1, pl11.2.2, by decide⟩
theorem wd177 : Cond.code ⟨"GallopDispatchModel", "byteOf", "(IIIIII)I"⟩ prog_13_method_5_code 7 (Option.some FieldType.int) ∈ aWs := mT6 197 rfl rfl
set_option maxRecDepth 10000 in
theorem mi165 : aMI 165 = some (⟨"GallopDispatchModel", "byteOf", "(IIIIII)I"⟩, prog_13_method_5_code, 7, some (.int)) := rfl
theorem mo165 : mQ (⟨"GallopDispatchModel", "byteOf", "(IIIIII)I"⟩, prog_13_method_5_code, 7, some (.int)) := ⟨wd177, plainFor_of_name pl11.1, wd173, pl11.2.1, pl11.2.2, by decide⟩
theorem wd178 : Cond.code ⟨"GallopDispatchModel", "feed", "(IIIII)I"⟩ prog_13_method_6_code 9 (Option.some FieldType.int) ∈ aWs := mT6 194 rfl rfl
set_option maxRecDepth 10000 in
theorem mi166 : aMI 166 = some (⟨"GallopDispatchModel", "feed", "(IIIII)I"⟩, prog_13_method_6_code, 9, some (.int)) := rfl
theorem mo166 : mQ (⟨"GallopDispatchModel", "feed", "(IIIII)I"⟩, prog_13_method_6_code, 9, some (.int)) := ⟨wd178, plainFor_of_name pl11.1, wd173, pl11.2.1, pl11.2.2, by decide⟩
theorem wd179 : Cond.code ⟨"GallopDispatchModel", "end", "(I)Z"⟩ prog_13_method_7_code 2 (Option.some FieldType.boolean) ∈ aWs := mT6 201 rfl rfl
set_option maxRecDepth 10000 in
theorem mi167 : aMI 167 = some (⟨"GallopDispatchModel", "end", "(I)Z"⟩, prog_13_method_7_code, 2, some (.boolean)) := rfl
theorem mo167 : mQ (⟨"GallopDispatchModel", "end", "(I)Z"⟩, prog_13_method_7_code, 2, some (.boolean)) := ⟨wd179, plainFor_of_name pl11.1, wd173, pl11.2.1, pl11.2.2, by decide⟩
theorem wd180 : Cond.code ⟨"GallopDispatchModel", "here", "()I"⟩ prog_13_method_8_code 1 (Option.some FieldType.int) ∈ aWs := mT6 220 rfl rfl
set_option maxRecDepth 10000 in
theorem mi168 : aMI 168 = some (⟨"GallopDispatchModel", "here", "()I"⟩, prog_13_method_8_code, 1, some (.int)) := rfl
theorem mo168 : mQ (⟨"GallopDispatchModel", "here", "()I"⟩, prog_13_method_8_code, 1, some (.int)) := ⟨wd180, plainFor_of_name pl11.1, wd173, pl11.2.1, pl11.2.2, by decide⟩
theorem wd181 : Cond.code ⟨"GallopDispatchModel", "look", "()I"⟩ prog_13_method_9_code 1 (Option.some FieldType.int) ∈ aWs := mT6 216 rfl rfl
set_option maxRecDepth 10000 in
theorem mi169 : aMI 169 = some (⟨"GallopDispatchModel", "look", "()I"⟩, prog_13_method_9_code, 1, some (.int)) := rfl
theorem mo169 : mQ (⟨"GallopDispatchModel", "look", "()I"⟩, prog_13_method_9_code, 1, some (.int)) := ⟨wd181, plainFor_of_name pl11.1, wd173, pl11.2.1, pl11.2.2, by decide⟩
theorem wd182 : Cond.code ⟨"GallopDispatchModel", "bad", "()V"⟩ prog_13_method_10_code 1 (Option.none : Option Jvm.ClassFile.FieldType) ∈ aWs := mT7 7 rfl rfl
set_option maxRecDepth 10000 in
theorem mi170 : aMI 170 = some (⟨"GallopDispatchModel", "bad", "()V"⟩, prog_13_method_10_code, 1, none) := rfl
theorem mo170 : mQ (⟨"GallopDispatchModel", "bad", "()V"⟩, prog_13_method_10_code, 1, none) := ⟨wd182, plainFor_of_name pl11.1, wd173, pl11.2.1, pl11.2.2, by decide⟩
theorem wd183 : Cond.code ⟨"GallopDispatchModel", "isDigit", "(I)Z"⟩ prog_13_method_11_code 1 (Option.some FieldType.boolean) ∈ aWs := mT7 3 rfl rfl
set_option maxRecDepth 10000 in
theorem mi171 : aMI 171 = some (⟨"GallopDispatchModel", "isDigit", "(I)Z"⟩, prog_13_method_11_code, 1, some (.boolean)) := rfl
theorem mo171 : mQ (⟨"GallopDispatchModel", "isDigit", "(I)Z"⟩, prog_13_method_11_code, 1, some (.boolean)) := ⟨wd183, plainFor_of_name pl11.1, wd173, pl11.2.1, pl11.2.2, by decide⟩
theorem wd184 : Cond.code ⟨"GallopDispatchModel", "putCode", "(II)V"⟩ prog_13_method_12_code 3 (Option.none : Option Jvm.ClassFile.FieldType) ∈ aWs := mT7 42 rfl rfl
set_option maxRecDepth 10000 in
theorem mi172 : aMI 172 = some (⟨"GallopDispatchModel", "putCode", "(II)V"⟩, prog_13_method_12_code, 3, none) := rfl
theorem mo172 : mQ (⟨"GallopDispatchModel", "putCode", "(II)V"⟩, prog_13_method_12_code, 3, none) := ⟨wd184, plainFor_of_name pl11.1, wd173, pl11.2.1, pl11.2.2, by decide⟩
theorem wd185 : Cond.code ⟨"GallopDispatchModel", "letterOf", "(I)I"⟩ prog_13_method_13_code 1 (Option.some FieldType.int) ∈ aWs := mT7 65 rfl rfl
set_option maxRecDepth 10000 in
theorem mi173 : aMI 173 = some (⟨"GallopDispatchModel", "letterOf", "(I)I"⟩, prog_13_method_13_code, 1, some (.int)) := rfl
theorem mo173 : mQ (⟨"GallopDispatchModel", "letterOf", "(I)I"⟩, prog_13_method_13_code, 1, some (.int)) := ⟨wd185, plainFor_of_name pl11.1, wd173, pl11.2.1, pl11.2.2, by decide⟩
theorem wd186 : Cond.code ⟨"GallopDispatchModel", "opens", "()V"⟩ prog_13_method_14_code 1 (Option.none : Option Jvm.ClassFile.FieldType) ∈ aWs := mT7 38 rfl rfl
set_option maxRecDepth 10000 in
theorem mi174 : aMI 174 = some (⟨"GallopDispatchModel", "opens", "()V"⟩, prog_13_method_14_code, 1, none) := rfl
theorem mo174 : mQ (⟨"GallopDispatchModel", "opens", "()V"⟩, prog_13_method_14_code, 1, none) := ⟨wd186, plainFor_of_name pl11.1, wd173, pl11.2.1, pl11.2.2, by decide⟩
theorem wd187 : Cond.code ⟨"GallopDispatchModel", "closes", "(I)V"⟩ prog_13_method_15_code 2 (Option.none : Option Jvm.ClassFile.FieldType) ∈ aWs := mT7 46 rfl rfl
set_option maxRecDepth 10000 in
theorem mi175 : aMI 175 = some (⟨"GallopDispatchModel", "closes", "(I)V"⟩, prog_13_method_15_code, 2, none) := rfl
theorem mo175 : mQ (⟨"GallopDispatchModel", "closes", "(I)V"⟩, prog_13_method_15_code, 2, none) := ⟨wd187, plainFor_of_name pl11.1, wd173, pl11.2.1, pl11.2.2, by decide⟩
theorem wd188 : Cond.code ⟨"GallopDispatchModel", "plainNumber", "()I"⟩ prog_13_method_16_code 3 (Option.some FieldType.int) ∈ aWs := mT7 62 rfl rfl
set_option maxRecDepth 10000 in
theorem mi176 : aMI 176 = some (⟨"GallopDispatchModel", "plainNumber", "()I"⟩, prog_13_method_16_code, 3, some (.int)) := rfl
theorem mo176 : mQ (⟨"GallopDispatchModel", "plainNumber", "()I"⟩, prog_13_method_16_code, 3, some (.int)) := ⟨wd188, plainFor_of_name pl11.1, wd173, pl11.2.1, pl11.2.2, by decide⟩
theorem wd189 : Cond.code ⟨"GallopDispatchModel", "atom", "()V"⟩ prog_13_method_17_code 2 (Option.none : Option Jvm.ClassFile.FieldType) ∈ aWs := mT7 58 rfl rfl
set_option maxRecDepth 10000 in
theorem mi177 : aMI 177 = some (⟨"GallopDispatchModel", "atom", "()V"⟩, prog_13_method_17_code, 2, none) := rfl
theorem mo177 : mQ (⟨"GallopDispatchModel", "atom", "()V"⟩, prog_13_method_17_code, 2, none) := ⟨wd189, plainFor_of_name pl11.1, wd173, pl11.2.1, pl11.2.2, by decide⟩
theorem wd190 : Cond.code ⟨"GallopDispatchModel", "term", "()V"⟩ prog_13_method_18_code 2 (Option.none : Option Jvm.ClassFile.FieldType) ∈ aWs := mT7 54 rfl rfl
set_option maxRecDepth 10000 in
theorem mi178 : aMI 178 = some (⟨"GallopDispatchModel", "term", "()V"⟩, prog_13_method_18_code, 2, none) := rfl
theorem mo178 : mQ (⟨"GallopDispatchModel", "term", "()V"⟩, prog_13_method_18_code, 2, none) := ⟨wd190, plainFor_of_name pl11.1, wd173, pl11.2.1, pl11.2.2, by decide⟩
theorem wd191 : Cond.code ⟨"GallopDispatchModel", "sum", "()V"⟩ prog_13_method_19_code 2 (Option.none : Option Jvm.ClassFile.FieldType) ∈ aWs := mT7 50 rfl rfl
set_option maxRecDepth 10000 in
theorem mi179 : aMI 179 = some (⟨"GallopDispatchModel", "sum", "()V"⟩, prog_13_method_19_code, 2, none) := rfl
theorem mo179 : mQ (⟨"GallopDispatchModel", "sum", "()V"⟩, prog_13_method_19_code, 2, none) := ⟨wd191, plainFor_of_name pl11.1, wd173, pl11.2.1, pl11.2.2, by decide⟩
theorem wd192 : Cond.code ⟨"GallopDispatchModel", "isSign", "(I)Z"⟩ prog_13_method_20_code 1 (Option.some FieldType.boolean) ∈ aWs := mT7 72 rfl rfl
set_option maxRecDepth 10000 in
theorem mi180 : aMI 180 = some (⟨"GallopDispatchModel", "isSign", "(I)Z"⟩, prog_13_method_20_code, 1, some (.boolean)) := rfl
theorem mo180 : mQ (⟨"GallopDispatchModel", "isSign", "(I)Z"⟩, prog_13_method_20_code, 1, some (.boolean)) := ⟨wd192, plainFor_of_name pl11.1, wd173, pl11.2.1, pl11.2.2, by decide⟩
theorem wd193 : Cond.code ⟨"GallopDispatchModel", "compare", "()V"⟩ prog_13_method_21_code 2 (Option.none : Option Jvm.ClassFile.FieldType) ∈ aWs := mT7 69 rfl rfl
set_option maxRecDepth 10000 in
theorem mi181 : aMI 181 = some (⟨"GallopDispatchModel", "compare", "()V"⟩, prog_13_method_21_code, 2, none) := rfl
theorem mo181 : mQ (⟨"GallopDispatchModel", "compare", "()V"⟩, prog_13_method_21_code, 2, none) := ⟨wd193, plainFor_of_name pl11.1, wd173, pl11.2.1, pl11.2.2, by decide⟩
theorem wd194 : Cond.code ⟨"GallopDispatchModel", "unit", "()V"⟩ prog_13_method_22_code 2 (Option.none : Option Jvm.ClassFile.FieldType) ∈ aWs := mT7 34 rfl rfl
set_option maxRecDepth 10000 in
theorem mi182 : aMI 182 = some (⟨"GallopDispatchModel", "unit", "()V"⟩, prog_13_method_22_code, 2, none) := rfl
theorem mo182 : mQ (⟨"GallopDispatchModel", "unit", "()V"⟩, prog_13_method_22_code, 2, none) := ⟨wd194, plainFor_of_name pl11.1, wd173, pl11.2.1, pl11.2.2, by decide⟩
theorem wd195 : Cond.code ⟨"GallopDispatchModel", "goOnAnd", "()V"⟩ prog_13_method_23_code 1 (Option.none : Option Jvm.ClassFile.FieldType) ∈ aWs := mT7 76 rfl rfl
set_option maxRecDepth 10000 in
theorem mi183 : aMI 183 = some (⟨"GallopDispatchModel", "goOnAnd", "()V"⟩, prog_13_method_23_code, 1, none) := rfl
theorem mo183 : mQ (⟨"GallopDispatchModel", "goOnAnd", "()V"⟩, prog_13_method_23_code, 1, none) := ⟨wd195, plainFor_of_name pl11.1, wd173, pl11.2.1, pl11.2.2, by decide⟩
theorem wd196 : Cond.code ⟨"GallopDispatchModel", "goOnOr", "()V"⟩ prog_13_method_24_code 1 (Option.none : Option Jvm.ClassFile.FieldType) ∈ aWs := mT7 80 rfl rfl
set_option maxRecDepth 10000 in
theorem mi184 : aMI 184 = some (⟨"GallopDispatchModel", "goOnOr", "()V"⟩, prog_13_method_24_code, 1, none) := rfl
theorem mo184 : mQ (⟨"GallopDispatchModel", "goOnOr", "()V"⟩, prog_13_method_24_code, 1, none) := ⟨wd196, plainFor_of_name pl11.1, wd173, pl11.2.1, pl11.2.2, by decide⟩
theorem wd197 : Cond.code ⟨"GallopDispatchModel", "condition", "()V"⟩ prog_13_method_25_code 1 (Option.none : Option Jvm.ClassFile.FieldType) ∈ aWs := mT7 30 rfl rfl
set_option maxRecDepth 10000 in
theorem mi185 : aMI 185 = some (⟨"GallopDispatchModel", "condition", "()V"⟩, prog_13_method_25_code, 1, none) := rfl
theorem mo185 : mQ (⟨"GallopDispatchModel", "condition", "()V"⟩, prog_13_method_25_code, 1, none) := ⟨wd197, plainFor_of_name pl11.1, wd173, pl11.2.1, pl11.2.2, by decide⟩
theorem wd198 : Cond.code ⟨"GallopDispatchModel", "clause", "()V"⟩ prog_13_method_26_code 3 (Option.none : Option Jvm.ClassFile.FieldType) ∈ aWs := mT7 26 rfl rfl
set_option maxRecDepth 10000 in
theorem mi186 : aMI 186 = some (⟨"GallopDispatchModel", "clause", "()V"⟩, prog_13_method_26_code, 3, none) := rfl
theorem mo186 : mQ (⟨"GallopDispatchModel", "clause", "()V"⟩, prog_13_method_26_code, 3, none) := ⟨wd198, plainFor_of_name pl11.1, wd173, pl11.2.1, pl11.2.2, by decide⟩
theorem wd199 : Cond.code ⟨"GallopDispatchModel", "open", "(I)V"⟩ prog_13_method_27_code 2 (Option.none : Option Jvm.ClassFile.FieldType) ∈ aWs := mT7 22 rfl rfl
set_option maxRecDepth 10000 in
theorem mi187 : aMI 187 = some (⟨"GallopDispatchModel", "open", "(I)V"⟩, prog_13_method_27_code, 2, none) := rfl
theorem mo187 : mQ (⟨"GallopDispatchModel", "open", "(I)V"⟩, prog_13_method_27_code, 2, none) := ⟨wd199, plainFor_of_name pl11.1, wd173, pl11.2.1, pl11.2.2, by decide⟩
theorem wd200 : Cond.code ⟨"GallopDispatchModel", "atEnd", "()I"⟩ prog_13_method_28_code 1 (Option.some FieldType.int) ∈ aWs := mT7 84 rfl rfl
set_option maxRecDepth 10000 in
theorem mi188 : aMI 188 = some (⟨"GallopDispatchModel", "atEnd", "()I"⟩, prog_13_method_28_code, 1, some (.int)) := rfl
theorem mo188 : mQ (⟨"GallopDispatchModel", "atEnd", "()I"⟩, prog_13_method_28_code, 1, some (.int)) := ⟨wd200, plainFor_of_name pl11.1, wd173, pl11.2.1, pl11.2.2, by decide⟩
theorem wd201 : Cond.code ⟨"GallopDispatchModel", "readLaw", "(I)I"⟩ prog_13_method_29_code 2 (Option.some FieldType.int) ∈ aWs := mT7 18 rfl rfl
set_option maxRecDepth 10000 in
theorem mi189 : aMI 189 = some (⟨"GallopDispatchModel", "readLaw", "(I)I"⟩, prog_13_method_29_code, 2, some (.int)) := rfl
theorem mo189 : mQ (⟨"GallopDispatchModel", "readLaw", "(I)I"⟩, prog_13_method_29_code, 2, some (.int)) := ⟨wd201, plainFor_of_name pl11.1, wd173, pl11.2.1, pl11.2.2, by decide⟩
theorem wd202 : Cond.code ⟨"GallopDispatchModel", "bounded", "(J)I"⟩ prog_13_method_30_code 2 (Option.some FieldType.int) ∈ aWs := mT7 155 rfl rfl
set_option maxRecDepth 10000 in
theorem mi190 : aMI 190 = some (⟨"GallopDispatchModel", "bounded", "(J)I"⟩, prog_13_method_30_code, 2, some (.int)) := rfl
theorem mo190 : mQ (⟨"GallopDispatchModel", "bounded", "(J)I"⟩, prog_13_method_30_code, 2, some (.int)) := ⟨wd202, plainFor_of_name pl11.1, wd173, pl11.2.1, pl11.2.2, by decide⟩
theorem wd203 : Cond.code ⟨"GallopDispatchModel", "worked", "(IJJ)I"⟩ prog_13_method_31_code 5 (Option.some FieldType.int) ∈ aWs := mT7 152 rfl rfl
set_option maxRecDepth 10000 in
theorem mi191 : aMI 191 = some (⟨"GallopDispatchModel", "worked", "(IJJ)I"⟩, prog_13_method_31_code, 5, some (.int)) := rfl
theorem mo191 : mQ (⟨"GallopDispatchModel", "worked", "(IJJ)I"⟩, prog_13_method_31_code, 5, some (.int)) := ⟨wd203, plainFor_of_name pl11.1, wd173, pl11.2.1, pl11.2.2, by decide⟩
theorem wd204 : Cond.code ⟨"GallopDispatchModel", "workOut", "(III)I"⟩ prog_13_method_32_code 6 (Option.some FieldType.int) ∈ aWs := mT7 149 rfl rfl
set_option maxRecDepth 10000 in
theorem mi192 : aMI 192 = some (⟨"GallopDispatchModel", "workOut", "(III)I"⟩, prog_13_method_32_code, 6, some (.int)) := rfl
theorem mo192 : mQ (⟨"GallopDispatchModel", "workOut", "(III)I"⟩, prog_13_method_32_code, 6, some (.int)) := ⟨wd204, plainFor_of_name pl11.1, wd173, pl11.2.1, pl11.2.2, by decide⟩
theorem wd205 : Cond.code ⟨"GallopDispatchModel", "worthOf", "(I)I"⟩ prog_13_method_33_code 3 (Option.some FieldType.int) ∈ aWs := mT7 145 rfl rfl
set_option maxRecDepth 10000 in
theorem mi193 : aMI 193 = some (⟨"GallopDispatchModel", "worthOf", "(I)I"⟩, prog_13_method_33_code, 3, some (.int)) := rfl
theorem mo193 : mQ (⟨"GallopDispatchModel", "worthOf", "(I)I"⟩, prog_13_method_33_code, 3, some (.int)) := ⟨wd205, plainFor_of_name pl11.1, wd173, pl11.2.1, pl11.2.2, by decide⟩
theorem wd206 : Cond.code ⟨"GallopDispatchModel", "number", "(II)I"⟩ prog_13_method_34_code 4 (Option.some FieldType.int) ∈ aWs := mT7 0 rfl rfl
set_option maxRecDepth 10000 in
theorem mi194 : aMI 194 = some (⟨"GallopDispatchModel", "number", "(II)I"⟩, prog_13_method_34_code, 4, some (.int)) := rfl
theorem mo194 : mQ (⟨"GallopDispatchModel", "number", "(II)I"⟩, prog_13_method_34_code, 4, some (.int)) := ⟨wd206, plainFor_of_name pl11.1, wd173, pl11.2.1, pl11.2.2, by decide⟩
theorem wd207 : Cond.code ⟨"GallopDispatchModel", "itemOf", "(II)I"⟩ prog_13_method_35_code 2 (Option.some FieldType.int) ∈ aWs := mT6 227 rfl rfl
set_option maxRecDepth 10000 in
theorem mi195 : aMI 195 = some (⟨"GallopDispatchModel", "itemOf", "(II)I"⟩, prog_13_method_35_code, 2, some (.int)) := rfl
theorem mo195 : mQ (⟨"GallopDispatchModel", "itemOf", "(II)I"⟩, prog_13_method_35_code, 2, some (.int)) := ⟨wd207, plainFor_of_name pl11.1, wd173, pl11.2.1, pl11.2.2, by decide⟩
theorem wd208 : Cond.code ⟨"GallopDispatchModel", "lowest", "(II)I"⟩ prog_13_method_36_code 2 (Option.some FieldType.int) ∈ aWs := mT6 233 rfl rfl
set_option maxRecDepth 10000 in
theorem mi196 : aMI 196 = some (⟨"GallopDispatchModel", "lowest", "(II)I"⟩, prog_13_method_36_code, 2, some (.int)) := rfl
theorem mo196 : mQ (⟨"GallopDispatchModel", "lowest", "(II)I"⟩, prog_13_method_36_code, 2, some (.int)) := ⟨wd208, plainFor_of_name pl11.1, wd173, pl11.2.1, pl11.2.2, by decide⟩
theorem wd209 : Cond.code ⟨"GallopDispatchModel", "highest", "(II)I"⟩ prog_13_method_37_code 2 (Option.some FieldType.int) ∈ aWs := mT6 236 rfl rfl
set_option maxRecDepth 10000 in
theorem mi197 : aMI 197 = some (⟨"GallopDispatchModel", "highest", "(II)I"⟩, prog_13_method_37_code, 2, some (.int)) := rfl
theorem mo197 : mQ (⟨"GallopDispatchModel", "highest", "(II)I"⟩, prog_13_method_37_code, 2, some (.int)) := ⟨wd209, plainFor_of_name pl11.1, wd173, pl11.2.1, pl11.2.2, by decide⟩
theorem wd210 : Cond.code ⟨"GallopDispatchModel", "usual", "(II)I"⟩ prog_13_method_38_code 2 (Option.some FieldType.int) ∈ aWs := mT6 212 rfl rfl
set_option maxRecDepth 10000 in
theorem mi198 : aMI 198 = some (⟨"GallopDispatchModel", "usual", "(II)I"⟩, prog_13_method_38_code, 2, some (.int)) := rfl
theorem mo198 : mQ (⟨"GallopDispatchModel", "usual", "(II)I"⟩, prog_13_method_38_code, 2, some (.int)) := ⟨wd210, plainFor_of_name pl11.1, wd173, pl11.2.1, pl11.2.2, by decide⟩
theorem wd211 : Cond.code ⟨"GallopDispatchModel", "items", "(I[III)V"⟩ prog_13_method_39_code 7 (Option.none : Option Jvm.ClassFile.FieldType) ∈ aWs := mT6 224 rfl rfl
set_option maxRecDepth 10000 in
theorem mi199 : aMI 199 = some (⟨"GallopDispatchModel", "items", "(I[III)V"⟩, prog_13_method_39_code, 7, none) := rfl
theorem mo199 : mQ (⟨"GallopDispatchModel", "items", "(I[III)V"⟩, prog_13_method_39_code, 7, none) := ⟨wd211, plainFor_of_name pl11.1, wd173, pl11.2.1, pl11.2.2, by decide⟩
theorem wd212 : Cond.code ⟨"GallopDispatchModel", "isWhole", "()Z"⟩ prog_13_method_40_code 4 (Option.some FieldType.boolean) ∈ aWs := mT7 14 rfl rfl
set_option maxRecDepth 10000 in
theorem mi200 : aMI 200 = some (⟨"GallopDispatchModel", "isWhole", "()Z"⟩, prog_13_method_40_code, 4, some (.boolean)) := rfl
theorem mo200 : mQ (⟨"GallopDispatchModel", "isWhole", "()Z"⟩, prog_13_method_40_code, 4, some (.boolean)) := ⟨wd212, plainFor_of_name pl11.1, wd173, pl11.2.1, pl11.2.2, by decide⟩
theorem wd213 : Cond.code ⟨"GallopDispatchModel", "readRide", "()I"⟩ prog_13_method_41_code 4 (Option.some FieldType.int) ∈ aWs := mT6 209 rfl rfl
set_option maxRecDepth 10000 in
theorem mi201 : aMI 201 = some (⟨"GallopDispatchModel", "readRide", "()I"⟩, prog_13_method_41_code, 4, some (.int)) := rfl
theorem mo201 : mQ (⟨"GallopDispatchModel", "readRide", "()I"⟩, prog_13_method_41_code, 4, some (.int)) := ⟨wd213, plainFor_of_name pl11.1, wd173, pl11.2.1, pl11.2.2, by decide⟩
theorem wd214 : Cond.code ⟨"GallopDispatchModel", "fault", "(I)I"⟩ prog_13_method_42_code 2 (Option.some FieldType.int) ∈ aWs := mT6 205 rfl rfl
set_option maxRecDepth 10000 in
theorem mi202 : aMI 202 = some (⟨"GallopDispatchModel", "fault", "(I)I"⟩, prog_13_method_42_code, 2, some (.int)) := rfl
theorem mo202 : mQ (⟨"GallopDispatchModel", "fault", "(I)I"⟩, prog_13_method_42_code, 2, some (.int)) := ⟨wd214, plainFor_of_name pl11.1, wd173, pl11.2.1, pl11.2.2, by decide⟩
theorem wd215 : Cond.code ⟨"GallopDispatchModel", "begin", "()V"⟩ prog_13_method_43_code 2 (Option.none : Option Jvm.ClassFile.FieldType) ∈ aWs := mT7 96 rfl rfl
set_option maxRecDepth 10000 in
theorem mi203 : aMI 203 = some (⟨"GallopDispatchModel", "begin", "()V"⟩, prog_13_method_43_code, 2, none) := rfl
theorem mo203 : mQ (⟨"GallopDispatchModel", "begin", "()V"⟩, prog_13_method_43_code, 2, none) := ⟨wd215, plainFor_of_name pl11.1, wd173, pl11.2.1, pl11.2.2, by decide⟩
theorem wd216 : Cond.code ⟨"GallopDispatchModel", "takeRide", "()I"⟩ prog_13_method_44_code 2 (Option.some FieldType.int) ∈ aWs := mT7 92 rfl rfl
set_option maxRecDepth 10000 in
theorem mi204 : aMI 204 = some (⟨"GallopDispatchModel", "takeRide", "()I"⟩, prog_13_method_44_code, 2, some (.int)) := rfl
theorem mo204 : mQ (⟨"GallopDispatchModel", "takeRide", "()I"⟩, prog_13_method_44_code, 2, some (.int)) := ⟨wd216, plainFor_of_name pl11.1, wd173, pl11.2.1, pl11.2.2, by decide⟩
theorem wd217 : Cond.code ⟨"GallopDispatchModel", "text", "(I)I"⟩ prog_13_method_45_code 2 (Option.some FieldType.int) ∈ aWs := mT7 88 rfl rfl
set_option maxRecDepth 10000 in
theorem mi205 : aMI 205 = some (⟨"GallopDispatchModel", "text", "(I)I"⟩, prog_13_method_45_code, 2, some (.int)) := rfl
theorem mo205 : mQ (⟨"GallopDispatchModel", "text", "(I)I"⟩, prog_13_method_45_code, 2, some (.int)) := ⟨wd217, plainFor_of_name pl11.1, wd173, pl11.2.1, pl11.2.2, by decide⟩
theorem wd218 : Cond.code ⟨"GallopDispatchModel", "of", "(II)I"⟩ prog_13_method_46_code 3 (Option.some FieldType.int) ∈ aWs := mT7 100 rfl rfl
set_option maxRecDepth 10000 in
theorem mi206 : aMI 206 = some (⟨"GallopDispatchModel", "of", "(II)I"⟩, prog_13_method_46_code, 3, some (.int)) := rfl
theorem mo206 : mQ (⟨"GallopDispatchModel", "of", "(II)I"⟩, prog_13_method_46_code, 3, some (.int)) := ⟨wd218, plainFor_of_name pl11.1, wd173, pl11.2.1, pl11.2.2, by decide⟩
theorem wd219 : Cond.code ⟨"GallopDispatchModel", "isMan", "(I)Z"⟩ prog_13_method_47_code 2 (Option.some FieldType.boolean) ∈ aWs := mT7 112 rfl rfl
set_option maxRecDepth 10000 in
theorem mi207 : aMI 207 = some (⟨"GallopDispatchModel", "isMan", "(I)Z"⟩, prog_13_method_47_code, 2, some (.boolean)) := rfl
theorem mo207 : mQ (⟨"GallopDispatchModel", "isMan", "(I)Z"⟩, prog_13_method_47_code, 2, some (.boolean)) := ⟨wd219, plainFor_of_name pl11.1, wd173, pl11.2.1, pl11.2.2, by decide⟩
theorem wd220 : Cond.code ⟨"GallopDispatchModel", "isFord", "(I)Z"⟩ prog_13_method_48_code 2 (Option.some FieldType.boolean) ∈ aWs := mT7 120 rfl rfl
set_option maxRecDepth 10000 in
theorem mi208 : aMI 208 = some (⟨"GallopDispatchModel", "isFord", "(I)Z"⟩, prog_13_method_48_code, 2, some (.boolean)) := rfl
theorem mo208 : mQ (⟨"GallopDispatchModel", "isFord", "(I)Z"⟩, prog_13_method_48_code, 2, some (.boolean)) := ⟨wd220, plainFor_of_name pl11.1, wd173, pl11.2.1, pl11.2.2, by decide⟩
theorem wd221 : Cond.code ⟨"GallopDispatchModel", "isStep", "(I)Z"⟩ prog_13_method_49_code 2 (Option.some FieldType.boolean) ∈ aWs := mT7 132 rfl rfl
set_option maxRecDepth 10000 in
theorem mi209 : aMI 209 = some (⟨"GallopDispatchModel", "isStep", "(I)Z"⟩, prog_13_method_49_code, 2, some (.boolean)) := rfl
theorem mo209 : mQ (⟨"GallopDispatchModel", "isStep", "(I)Z"⟩, prog_13_method_49_code, 2, some (.boolean)) := ⟨wd221, plainFor_of_name pl11.1, wd173, pl11.2.1, pl11.2.2, by decide⟩
theorem wd222 : Cond.code ⟨"GallopDispatchModel", "isWet", "(I)Z"⟩ prog_13_method_50_code 4 (Option.some FieldType.boolean) ∈ aWs := mT7 140 rfl rfl
set_option maxRecDepth 10000 in
theorem mi210 : aMI 210 = some (⟨"GallopDispatchModel", "isWet", "(I)Z"⟩, prog_13_method_50_code, 4, some (.boolean)) := rfl
theorem mo210 : mQ (⟨"GallopDispatchModel", "isWet", "(I)Z"⟩, prog_13_method_50_code, 4, some (.boolean)) := ⟨wd222, plainFor_of_name pl11.1, wd173, pl11.2.1, pl11.2.2, by decide⟩
theorem wd223 : Cond.code ⟨"GallopDispatchModel", "heardAt", "(II)I"⟩ prog_13_method_51_code 5 (Option.some FieldType.int) ∈ aWs := mT7 136 rfl rfl
set_option maxRecDepth 10000 in
theorem mi211 : aMI 211 = some (⟨"GallopDispatchModel", "heardAt", "(II)I"⟩, prog_13_method_51_code, 5, some (.int)) := rfl
theorem mo211 : mQ (⟨"GallopDispatchModel", "heardAt", "(II)I"⟩, prog_13_method_51_code, 5, some (.int)) := ⟨wd223, plainFor_of_name pl11.1, wd173, pl11.2.1, pl11.2.2, by decide⟩
theorem wd224 : Cond.code ⟨"GallopDispatchModel", "loudestAt", "(I)I"⟩ prog_13_method_52_code 6 (Option.some FieldType.int) ∈ aWs := mT7 221 rfl rfl
set_option maxRecDepth 10000 in
theorem mi212 : aMI 212 = some (⟨"GallopDispatchModel", "loudestAt", "(I)I"⟩, prog_13_method_52_code, 6, some (.int)) := rfl
theorem mo212 : mQ (⟨"GallopDispatchModel", "loudestAt", "(I)I"⟩, prog_13_method_52_code, 6, some (.int)) := ⟨wd224, plainFor_of_name pl11.1, wd173, pl11.2.1, pl11.2.2, by decide⟩
theorem wd225 : Cond.code ⟨"GallopDispatchModel", "layRide", "(I)V"⟩ prog_13_method_53_code 6 (Option.none : Option Jvm.ClassFile.FieldType) ∈ aWs := mT7 217 rfl rfl
set_option maxRecDepth 10000 in
theorem mi213 : aMI 213 = some (⟨"GallopDispatchModel", "layRide", "(I)V"⟩, prog_13_method_53_code, 6, none) := rfl
theorem mo213 : mQ (⟨"GallopDispatchModel", "layRide", "(I)V"⟩, prog_13_method_53_code, 6, none) := ⟨wd225, plainFor_of_name pl11.1, wd173, pl11.2.1, pl11.2.2, by decide⟩
theorem wd226 : Cond.code ⟨"GallopDispatchModel", "layNow", "()V"⟩ prog_13_method_54_code 1 (Option.none : Option Jvm.ClassFile.FieldType) ∈ aWs := mT7 213 rfl rfl
set_option maxRecDepth 10000 in
theorem mi214 : aMI 214 = some (⟨"GallopDispatchModel", "layNow", "()V"⟩, prog_13_method_54_code, 1, none) := rfl
theorem mo214 : mQ (⟨"GallopDispatchModel", "layNow", "()V"⟩, prog_13_method_54_code, 1, none) := ⟨wd226, plainFor_of_name pl11.1, wd173, pl11.2.1, pl11.2.2, by decide⟩
theorem wd227 : Cond.code ⟨"GallopDispatchModel", "mentionedMany", "()I"⟩ prog_13_method_55_code 1 (Option.some FieldType.int) ∈ aWs := mT8 56 rfl rfl
set_option maxRecDepth 10000 in
theorem mi215 : aMI 215 = some (⟨"GallopDispatchModel", "mentionedMany", "()I"⟩, prog_13_method_55_code, 1, some (.int)) := rfl
theorem mo215 : mQ (⟨"GallopDispatchModel", "mentionedMany", "()I"⟩, prog_13_method_55_code, 1, some (.int)) := ⟨wd227, plainFor_of_name pl11.1, wd173, pl11.2.1, pl11.2.2, by decide⟩
theorem wd228 : Cond.code ⟨"GallopDispatchModel", "mentionsNow", "(I)I"⟩ prog_13_method_56_code 2 (Option.some FieldType.int) ∈ aWs := mT8 20 rfl rfl
set_option maxRecDepth 10000 in
theorem mi216 : aMI 216 = some (⟨"GallopDispatchModel", "mentionsNow", "(I)I"⟩, prog_13_method_56_code, 2, some (.int)) := rfl
theorem mo216 : mQ (⟨"GallopDispatchModel", "mentionsNow", "(I)I"⟩, prog_13_method_56_code, 2, some (.int)) := ⟨wd228, plainFor_of_name pl11.1, wd173, pl11.2.1, pl11.2.2, by decide⟩
theorem wd229 : Cond.code ⟨"GallopDispatchModel", "rule", "(I)I"⟩ prog_13_method_57_code 2 (Option.some FieldType.int) ∈ aWs := mT7 104 rfl rfl
set_option maxRecDepth 10000 in
theorem mi217 : aMI 217 = some (⟨"GallopDispatchModel", "rule", "(I)I"⟩, prog_13_method_57_code, 2, some (.int)) := rfl
theorem mo217 : mQ (⟨"GallopDispatchModel", "rule", "(I)I"⟩, prog_13_method_57_code, 2, some (.int)) := ⟨wd229, plainFor_of_name pl11.1, wd173, pl11.2.1, pl11.2.2, by decide⟩
theorem wd230 : Cond.code ⟨"GallopDispatchModel", "man", "(II)I"⟩ prog_13_method_58_code 3 (Option.some FieldType.int) ∈ aWs := mT7 108 rfl rfl
set_option maxRecDepth 10000 in
theorem mi218 : aMI 218 = some (⟨"GallopDispatchModel", "man", "(II)I"⟩, prog_13_method_58_code, 3, some (.int)) := rfl
theorem mo218 : mQ (⟨"GallopDispatchModel", "man", "(II)I"⟩, prog_13_method_58_code, 3, some (.int)) := ⟨wd230, plainFor_of_name pl11.1, wd173, pl11.2.1, pl11.2.2, by decide⟩
theorem wd231 : Cond.code ⟨"GallopDispatchModel", "ford", "(II)I"⟩ prog_13_method_59_code 3 (Option.some FieldType.int) ∈ aWs := mT7 116 rfl rfl
set_option maxRecDepth 10000 in
theorem mi219 : aMI 219 = some (⟨"GallopDispatchModel", "ford", "(II)I"⟩, prog_13_method_59_code, 3, some (.int)) := rfl
theorem mo219 : mQ (⟨"GallopDispatchModel", "ford", "(II)I"⟩, prog_13_method_59_code, 3, some (.int)) := ⟨wd231, plainFor_of_name pl11.1, wd173, pl11.2.1, pl11.2.2, by decide⟩
theorem wd232 : Cond.code ⟨"GallopDispatchModel", "law", "(I)Z"⟩ prog_13_method_60_code 2 (Option.some FieldType.boolean) ∈ aWs := mT7 124 rfl rfl
set_option maxRecDepth 10000 in
theorem mi220 : aMI 220 = some (⟨"GallopDispatchModel", "law", "(I)Z"⟩, prog_13_method_60_code, 2, some (.boolean)) := rfl
theorem mo220 : mQ (⟨"GallopDispatchModel", "law", "(I)Z"⟩, prog_13_method_60_code, 2, some (.boolean)) := ⟨wd232, plainFor_of_name pl11.1, wd173, pl11.2.1, pl11.2.2, by decide⟩
theorem wd233 : Cond.code ⟨"GallopDispatchModel", "heard", "(II)I"⟩ prog_13_method_61_code 3 (Option.some FieldType.int) ∈ aWs := mT7 128 rfl rfl
set_option maxRecDepth 10000 in
theorem mi221 : aMI 221 = some (⟨"GallopDispatchModel", "heard", "(II)I"⟩, prog_13_method_61_code, 3, some (.int)) := rfl
theorem mo221 : mQ (⟨"GallopDispatchModel", "heard", "(II)I"⟩, prog_13_method_61_code, 3, some (.int)) := ⟨wd233, plainFor_of_name pl11.1, wd173, pl11.2.1, pl11.2.2, by decide⟩
theorem wd234 : Cond.code ⟨"GallopDispatchModel", "keep", "()V"⟩ prog_13_method_62_code 2 (Option.none : Option Jvm.ClassFile.FieldType) ∈ aWs := mT7 177 rfl rfl
set_option maxRecDepth 10000 in
theorem mi222 : aMI 222 = some (⟨"GallopDispatchModel", "keep", "()V"⟩, prog_13_method_62_code, 2, none) := rfl
theorem mo222 : mQ (⟨"GallopDispatchModel", "keep", "()V"⟩, prog_13_method_62_code, 2, none) := ⟨wd234, plainFor_of_name pl11.1, wd173, pl11.2.1, pl11.2.2, by decide⟩
theorem wd235 : Cond.code ⟨"GallopDispatchModel", "isRefused", "(I)Z"⟩ prog_13_method_63_code 2 (Option.some FieldType.boolean) ∈ aWs := mT7 173 rfl rfl
set_option maxRecDepth 10000 in
theorem mi223 : aMI 223 = some (⟨"GallopDispatchModel", "isRefused", "(I)Z"⟩, prog_13_method_63_code, 2, some (.boolean)) := rfl
theorem mo223 : mQ (⟨"GallopDispatchModel", "isRefused", "(I)Z"⟩, prog_13_method_63_code, 2, some (.boolean)) := ⟨wd235, plainFor_of_name pl11.1, wd173, pl11.2.1, pl11.2.2, by decide⟩
theorem wd236 : Cond.code ⟨"GallopDispatchModel", "move", "(II)I"⟩ prog_13_method_64_code 3 (Option.some FieldType.int) ∈ aWs := mT7 169 rfl rfl
set_option maxRecDepth 10000 in
theorem mi224 : aMI 224 = some (⟨"GallopDispatchModel", "move", "(II)I"⟩, prog_13_method_64_code, 3, some (.int)) := rfl
theorem mo224 : mQ (⟨"GallopDispatchModel", "move", "(II)I"⟩, prog_13_method_64_code, 3, some (.int)) := ⟨wd236, plainFor_of_name pl11.1, wd173, pl11.2.1, pl11.2.2, by decide⟩
theorem wd237 : Cond.code ⟨"GallopDispatchModel", "voice", "(II)I"⟩ prog_13_method_65_code 3 (Option.some FieldType.int) ∈ aWs := mT7 181 rfl rfl
set_option maxRecDepth 10000 in
theorem mi225 : aMI 225 = some (⟨"GallopDispatchModel", "voice", "(II)I"⟩, prog_13_method_65_code, 3, some (.int)) := rfl
theorem mo225 : mQ (⟨"GallopDispatchModel", "voice", "(II)I"⟩, prog_13_method_65_code, 3, some (.int)) := ⟨wd237, plainFor_of_name pl11.1, wd173, pl11.2.1, pl11.2.2, by decide⟩
theorem wd238 : Cond.code ⟨"GallopDispatchModel", "deed", "(I)I"⟩ prog_13_method_66_code 2 (Option.some FieldType.int) ∈ aWs := mT7 185 rfl rfl
set_option maxRecDepth 10000 in
theorem mi226 : aMI 226 = some (⟨"GallopDispatchModel", "deed", "(I)I"⟩, prog_13_method_66_code, 2, some (.int)) := rfl
theorem mo226 : mQ (⟨"GallopDispatchModel", "deed", "(I)I"⟩, prog_13_method_66_code, 2, some (.int)) := ⟨wd238, plainFor_of_name pl11.1, wd173, pl11.2.1, pl11.2.2, by decide⟩
theorem wd239 : Cond.code ⟨"GallopDispatchModel", "feedHorse", "(Z)I"⟩ prog_13_method_67_code 3 (Option.some FieldType.int) ∈ aWs := mT7 189 rfl rfl
set_option maxRecDepth 10000 in
theorem mi227 : aMI 227 = some (⟨"GallopDispatchModel", "feedHorse", "(Z)I"⟩, prog_13_method_67_code, 3, some (.int)) := rfl
theorem mo227 : mQ (⟨"GallopDispatchModel", "feedHorse", "(Z)I"⟩, prog_13_method_67_code, 3, some (.int)) := ⟨wd239, plainFor_of_name pl11.1, wd173, pl11.2.1, pl11.2.2, by decide⟩
theorem wd240 : Cond.code ⟨"GallopDispatchModel", "fill", "(I)I"⟩ prog_13_method_68_code 2 (Option.some FieldType.int) ∈ aWs := mT7 193 rfl rfl
set_option maxRecDepth 10000 in
theorem mi228 : aMI 228 = some (⟨"GallopDispatchModel", "fill", "(I)I"⟩, prog_13_method_68_code, 2, some (.int)) := rfl
theorem mo228 : mQ (⟨"GallopDispatchModel", "fill", "(I)I"⟩, prog_13_method_68_code, 2, some (.int)) := ⟨wd240, plainFor_of_name pl11.1, wd173, pl11.2.1, pl11.2.2, by decide⟩
theorem wd241 : Cond.code ⟨"GallopDispatchModel", "rain", "(I)I"⟩ prog_13_method_69_code 3 (Option.some FieldType.int) ∈ aWs := mT7 197 rfl rfl
set_option maxRecDepth 10000 in
theorem mi229 : aMI 229 = some (⟨"GallopDispatchModel", "rain", "(I)I"⟩, prog_13_method_69_code, 3, some (.int)) := rfl
theorem mo229 : mQ (⟨"GallopDispatchModel", "rain", "(I)I"⟩, prog_13_method_69_code, 3, some (.int)) := ⟨wd241, plainFor_of_name pl11.1, wd173, pl11.2.1, pl11.2.2, by decide⟩
theorem wd242 : Cond.code ⟨"GallopDispatchModel", "passDay", "()V"⟩ prog_13_method_70_code 2 (Option.none : Option Jvm.ClassFile.FieldType) ∈ aWs := mT7 209 rfl rfl
set_option maxRecDepth 10000 in
theorem mi230 : aMI 230 = some (⟨"GallopDispatchModel", "passDay", "()V"⟩, prog_13_method_70_code, 2, none) := rfl
theorem mo230 : mQ (⟨"GallopDispatchModel", "passDay", "()V"⟩, prog_13_method_70_code, 2, none) := ⟨wd242, plainFor_of_name pl11.1, wd173, pl11.2.1, pl11.2.2, by decide⟩
theorem wd243 : Cond.code ⟨"GallopDispatchModel", "areDays", "(I)Z"⟩ prog_13_method_71_code 2 (Option.some FieldType.boolean) ∈ aWs := mT7 205 rfl rfl
set_option maxRecDepth 10000 in
theorem mi231 : aMI 231 = some (⟨"GallopDispatchModel", "areDays", "(I)Z"⟩, prog_13_method_71_code, 2, some (.boolean)) := rfl
theorem mo231 : mQ (⟨"GallopDispatchModel", "areDays", "(I)Z"⟩, prog_13_method_71_code, 2, some (.boolean)) := ⟨wd243, plainFor_of_name pl11.1, wd173, pl11.2.1, pl11.2.2, by decide⟩
theorem wd244 : Cond.code ⟨"GallopDispatchModel", "days", "(I)I"⟩ prog_13_method_72_code 3 (Option.some FieldType.int) ∈ aWs := mT7 201 rfl rfl
set_option maxRecDepth 10000 in
theorem mi232 : aMI 232 = some (⟨"GallopDispatchModel", "days", "(I)I"⟩, prog_13_method_72_code, 3, some (.int)) := rfl
theorem mo232 : mQ (⟨"GallopDispatchModel", "days", "(I)I"⟩, prog_13_method_72_code, 3, some (.int)) := ⟨wd244, plainFor_of_name pl11.1, wd173, pl11.2.1, pl11.2.2, by decide⟩
theorem wd245 : Cond.code ⟨"GallopDispatchModel", "storm", "(I)Z"⟩ prog_13_method_73_code 2 (Option.some FieldType.boolean) ∈ aWs := mT7 226 rfl rfl
set_option maxRecDepth 10000 in
theorem mi233 : aMI 233 = some (⟨"GallopDispatchModel", "storm", "(I)Z"⟩, prog_13_method_73_code, 2, some (.boolean)) := rfl
theorem mo233 : mQ (⟨"GallopDispatchModel", "storm", "(I)Z"⟩, prog_13_method_73_code, 2, some (.boolean)) := ⟨wd245, plainFor_of_name pl11.1, wd173, pl11.2.1, pl11.2.2, by decide⟩
theorem wd246 : Cond.code ⟨"GallopDispatchModel", "draw", "(I)I"⟩ prog_13_method_74_code 2 (Option.some FieldType.int) ∈ aWs := mT7 234 rfl rfl
set_option maxRecDepth 10000 in
theorem mi234 : aMI 234 = some (⟨"GallopDispatchModel", "draw", "(I)I"⟩, prog_13_method_74_code, 2, some (.int)) := rfl
theorem mo234 : mQ (⟨"GallopDispatchModel", "draw", "(I)I"⟩, prog_13_method_74_code, 2, some (.int)) := ⟨wd246, plainFor_of_name pl11.1, wd173, pl11.2.1, pl11.2.2, by decide⟩
theorem wd247 : Cond.code ⟨"GallopDispatchModel", "years", "(IJ)I"⟩ prog_13_method_75_code 6 (Option.some FieldType.int) ∈ aWs := mT7 230 rfl rfl
set_option maxRecDepth 10000 in
theorem mi235 : aMI 235 = some (⟨"GallopDispatchModel", "years", "(IJ)I"⟩, prog_13_method_75_code, 6, some (.int)) := rfl
theorem mo235 : mQ (⟨"GallopDispatchModel", "years", "(IJ)I"⟩, prog_13_method_75_code, 6, some (.int)) := ⟨wd247, plainFor_of_name pl11.1, wd173, pl11.2.1, pl11.2.2, by decide⟩
theorem wd248 : Cond.code ⟨"GallopDispatchModel", "status", "(I)I"⟩ prog_13_method_76_code 2 (Option.some FieldType.int) ∈ aWs := mT8 0 rfl rfl
set_option maxRecDepth 10000 in
theorem mi236 : aMI 236 = some (⟨"GallopDispatchModel", "status", "(I)I"⟩, prog_13_method_76_code, 2, some (.int)) := rfl
theorem mo236 : mQ (⟨"GallopDispatchModel", "status", "(I)I"⟩, prog_13_method_76_code, 2, some (.int)) := ⟨wd248, plainFor_of_name pl11.1, wd173, pl11.2.1, pl11.2.2, by decide⟩
theorem wd249 : Cond.code ⟨"GallopDispatchModel", "undo", "()I"⟩ prog_13_method_77_code 2 (Option.some FieldType.int) ∈ aWs := mT8 4 rfl rfl
set_option maxRecDepth 10000 in
theorem mi237 : aMI 237 = some (⟨"GallopDispatchModel", "undo", "()I"⟩, prog_13_method_77_code, 2, some (.int)) := rfl
theorem mo237 : mQ (⟨"GallopDispatchModel", "undo", "()I"⟩, prog_13_method_77_code, 2, some (.int)) := ⟨wd249, plainFor_of_name pl11.1, wd173, pl11.2.1, pl11.2.2, by decide⟩
theorem wd250 : Cond.code ⟨"GallopDispatchModel", "log", "(II)I"⟩ prog_13_method_78_code 3 (Option.some FieldType.int) ∈ aWs := mT8 8 rfl rfl
set_option maxRecDepth 10000 in
theorem mi238 : aMI 238 = some (⟨"GallopDispatchModel", "log", "(II)I"⟩, prog_13_method_78_code, 3, some (.int)) := rfl
theorem mo238 : mQ (⟨"GallopDispatchModel", "log", "(II)I"⟩, prog_13_method_78_code, 3, some (.int)) := ⟨wd250, plainFor_of_name pl11.1, wd173, pl11.2.1, pl11.2.2, by decide⟩
theorem wd251 : Cond.code ⟨"GallopDispatchModel", "words", "(I)I"⟩ prog_13_method_79_code 2 (Option.some FieldType.int) ∈ aWs := mT8 12 rfl rfl
set_option maxRecDepth 10000 in
theorem mi239 : aMI 239 = some (⟨"GallopDispatchModel", "words", "(I)I"⟩, prog_13_method_79_code, 2, some (.int)) := rfl
theorem mo239 : mQ (⟨"GallopDispatchModel", "words", "(I)I"⟩, prog_13_method_79_code, 2, some (.int)) := ⟨wd251, plainFor_of_name pl11.1, wd173, pl11.2.1, pl11.2.2, by decide⟩
theorem wd252 : Cond.code ⟨"GallopDispatchModel", "mentions", "(I)I"⟩ prog_13_method_80_code 2 (Option.some FieldType.int) ∈ aWs := mT8 16 rfl rfl
set_option maxRecDepth 10000 in
theorem mi240 : aMI 240 = some (⟨"GallopDispatchModel", "mentions", "(I)I"⟩, prog_13_method_80_code, 2, some (.int)) := rfl
theorem mo240 : mQ (⟨"GallopDispatchModel", "mentions", "(I)I"⟩, prog_13_method_80_code, 2, some (.int)) := ⟨wd252, plainFor_of_name pl11.1, wd173, pl11.2.1, pl11.2.2, by decide⟩
theorem wd253 : Cond.code ⟨"GallopDispatchModel", "roomNeeded", "()I"⟩ prog_13_method_81_code 3 (Option.some FieldType.int) ∈ aWs := mT8 28 rfl rfl
set_option maxRecDepth 10000 in
theorem mi241 : aMI 241 = some (⟨"GallopDispatchModel", "roomNeeded", "()I"⟩, prog_13_method_81_code, 3, some (.int)) := rfl
theorem mo241 : mQ (⟨"GallopDispatchModel", "roomNeeded", "()I"⟩, prog_13_method_81_code, 3, some (.int)) := ⟨wd253, plainFor_of_name pl11.1, wd173, pl11.2.1, pl11.2.2, by decide⟩
theorem wd254 : Cond.code ⟨"GallopDispatchModel", "dry", "()I"⟩ prog_13_method_82_code 3 (Option.some FieldType.int) ∈ aWs := mT8 32 rfl rfl
set_option maxRecDepth 10000 in
theorem mi242 : aMI 242 = some (⟨"GallopDispatchModel", "dry", "()I"⟩, prog_13_method_82_code, 3, some (.int)) := rfl
theorem mo242 : mQ (⟨"GallopDispatchModel", "dry", "()I"⟩, prog_13_method_82_code, 3, some (.int)) := ⟨wd254, plainFor_of_name pl11.1, wd173, pl11.2.1, pl11.2.2, by decide⟩
theorem wd255 : Cond.code ⟨"GallopDispatchModel", "depths", "()I"⟩ prog_13_method_83_code 3 (Option.some FieldType.int) ∈ aWs := mT8 36 rfl rfl
set_option maxRecDepth 10000 in
theorem mi243 : aMI 243 = some (⟨"GallopDispatchModel", "depths", "()I"⟩, prog_13_method_83_code, 3, some (.int)) := rfl
theorem mo243 : mQ (⟨"GallopDispatchModel", "depths", "()I"⟩, prog_13_method_83_code, 3, some (.int)) := ⟨wd255, plainFor_of_name pl11.1, wd173, pl11.2.1, pl11.2.2, by decide⟩
theorem wd256 : Cond.code ⟨"GallopDispatchModel", "ride", "(I)I"⟩ prog_13_method_84_code 2 (Option.some FieldType.int) ∈ aWs := mT8 24 rfl rfl
set_option maxRecDepth 10000 in
theorem mi244 : aMI 244 = some (⟨"GallopDispatchModel", "ride", "(I)I"⟩, prog_13_method_84_code, 2, some (.int)) := rfl
theorem mo244 : mQ (⟨"GallopDispatchModel", "ride", "(I)I"⟩, prog_13_method_84_code, 2, some (.int)) := ⟨wd256, plainFor_of_name pl11.1, wd173, pl11.2.1, pl11.2.2, by decide⟩
theorem wd257 : Cond.code ⟨"GallopDispatchModel", "bestAt", "(IIII)I"⟩ prog_13_method_85_code 9 (Option.some FieldType.int) ∈ aWs := mT8 44 rfl rfl
set_option maxRecDepth 10000 in
theorem mi245 : aMI 245 = some (⟨"GallopDispatchModel", "bestAt", "(IIII)I"⟩, prog_13_method_85_code, 9, some (.int)) := rfl
theorem mo245 : mQ (⟨"GallopDispatchModel", "bestAt", "(IIII)I"⟩, prog_13_method_85_code, 9, some (.int)) := ⟨wd257, plainFor_of_name pl11.1, wd173, pl11.2.1, pl11.2.2, by decide⟩
theorem wd258 : Cond.code ⟨"GallopDispatchModel", "stand", "(II)I"⟩ prog_13_method_86_code 4 (Option.some FieldType.int) ∈ aWs := mT8 40 rfl rfl
set_option maxRecDepth 10000 in
theorem mi246 : aMI 246 = some (⟨"GallopDispatchModel", "stand", "(II)I"⟩, prog_13_method_86_code, 4, some (.int)) := rfl
theorem mo246 : mQ (⟨"GallopDispatchModel", "stand", "(II)I"⟩, prog_13_method_86_code, 4, some (.int)) := ⟨wd258, plainFor_of_name pl11.1, wd173, pl11.2.1, pl11.2.2, by decide⟩
theorem wd259 : Cond.code ⟨"GallopDispatchModel", "gait", "(II)I"⟩ prog_13_method_87_code 4 (Option.some FieldType.int) ∈ aWs := mT8 48 rfl rfl
set_option maxRecDepth 10000 in
theorem mi247 : aMI 247 = some (⟨"GallopDispatchModel", "gait", "(II)I"⟩, prog_13_method_87_code, 4, some (.int)) := rfl
theorem mo247 : mQ (⟨"GallopDispatchModel", "gait", "(II)I"⟩, prog_13_method_87_code, 4, some (.int)) := ⟨wd259, plainFor_of_name pl11.1, wd173, pl11.2.1, pl11.2.2, by decide⟩
theorem wd260 : Cond.code ⟨"GallopDispatchModel", "put", "(I)I"⟩ prog_13_method_88_code 8 (Option.some FieldType.int) ∈ aWs := mT8 52 rfl rfl
set_option maxRecDepth 10000 in
theorem mi248 : aMI 248 = some (⟨"GallopDispatchModel", "put", "(I)I"⟩, prog_13_method_88_code, 8, some (.int)) := rfl
theorem mo248 : mQ (⟨"GallopDispatchModel", "put", "(I)I"⟩, prog_13_method_88_code, 8, some (.int)) := ⟨wd260, plainFor_of_name pl11.1, wd173, pl11.2.1, pl11.2.2, by decide⟩
theorem wd261 : Cond.code ⟨"GallopDispatchModel", "least", "(I)I"⟩ prog_13_method_89_code 5 (Option.some FieldType.int) ∈ aWs := mT8 60 rfl rfl
set_option maxRecDepth 10000 in
theorem mi249 : aMI 249 = some (⟨"GallopDispatchModel", "least", "(I)I"⟩, prog_13_method_89_code, 5, some (.int)) := rfl
theorem mo249 : mQ (⟨"GallopDispatchModel", "least", "(I)I"⟩, prog_13_method_89_code, 5, some (.int)) := ⟨wd261, plainFor_of_name pl11.1, wd173, pl11.2.1, pl11.2.2, by decide⟩
theorem wd262 : Cond.code ⟨"GallopDispatchModel", "seen", "(IIZ)I"⟩ prog_13_method_90_code 4 (Option.some FieldType.int) ∈ aWs := mT8 64 rfl rfl
set_option maxRecDepth 10000 in
theorem mi250 : aMI 250 = some (⟨"GallopDispatchModel", "seen", "(IIZ)I"⟩, prog_13_method_90_code, 4, some (.int)) := rfl
theorem mo250 : mQ (⟨"GallopDispatchModel", "seen", "(IIZ)I"⟩, prog_13_method_90_code, 4, some (.int)) := ⟨wd262, plainFor_of_name pl11.1, wd173, pl11.2.1, pl11.2.2, by decide⟩
theorem wd263 : Cond.code ⟨"GallopDispatchModel", "isWho", "(I)Z"⟩ prog_13_method_91_code 2 (Option.some FieldType.boolean) ∈ aWs := mT8 80 rfl rfl
set_option maxRecDepth 10000 in
theorem mi251 : aMI 251 = some (⟨"GallopDispatchModel", "isWho", "(I)Z"⟩, prog_13_method_91_code, 2, some (.boolean)) := rfl
theorem mo251 : mQ (⟨"GallopDispatchModel", "isWho", "(I)Z"⟩, prog_13_method_91_code, 2, some (.boolean)) := ⟨wd263, plainFor_of_name pl11.1, wd173, pl11.2.1, pl11.2.2, by decide⟩
theorem wd264 : Cond.code ⟨"GallopDispatchModel", "layRows", "(I)V"⟩ prog_13_method_92_code 4 (Option.none : Option Jvm.ClassFile.FieldType) ∈ aWs := mT8 76 rfl rfl
set_option maxRecDepth 10000 in
theorem mi252 : aMI 252 = some (⟨"GallopDispatchModel", "layRows", "(I)V"⟩, prog_13_method_92_code, 4, none) := rfl
theorem mo252 : mQ (⟨"GallopDispatchModel", "layRows", "(I)V"⟩, prog_13_method_92_code, 4, none) := ⟨wd264, plainFor_of_name pl11.1, wd173, pl11.2.1, pl11.2.2, by decide⟩
theorem wd265 : Cond.code ⟨"GallopDispatchModel", "isSo", "(I)Z"⟩ prog_13_method_93_code 4 (Option.some FieldType.boolean) ∈ aWs := mT8 84 rfl rfl
set_option maxRecDepth 10000 in
theorem mi253 : aMI 253 = some (⟨"GallopDispatchModel", "isSo", "(I)Z"⟩, prog_13_method_93_code, 4, some (.boolean)) := rfl
theorem mo253 : mQ (⟨"GallopDispatchModel", "isSo", "(I)Z"⟩, prog_13_method_93_code, 4, some (.boolean)) := ⟨wd265, plainFor_of_name pl11.1, wd173, pl11.2.1, pl11.2.2, by decide⟩
theorem wd266 : Cond.code ⟨"GallopDispatchModel", "isMore", "(I)Z"⟩ prog_13_method_94_code 2 (Option.some FieldType.boolean) ∈ aWs := mT8 72 rfl rfl
set_option maxRecDepth 10000 in
theorem mi254 : aMI 254 = some (⟨"GallopDispatchModel", "isMore", "(I)Z"⟩, prog_13_method_94_code, 2, some (.boolean)) := rfl
theorem mo254 : mQ (⟨"GallopDispatchModel", "isMore", "(I)Z"⟩, prog_13_method_94_code, 2, some (.boolean)) := ⟨wd266, plainFor_of_name pl11.1, wd173, pl11.2.1, pl11.2.2, by decide⟩
theorem wd267 : Cond.code ⟨"GallopDispatchModel", "who", "(II)I"⟩ prog_13_method_95_code 5 (Option.some FieldType.int) ∈ aWs := mT8 68 rfl rfl
set_option maxRecDepth 10000 in
theorem mi255 : aMI 255 = some (⟨"GallopDispatchModel", "who", "(II)I"⟩, prog_13_method_95_code, 5, some (.int)) := rfl
theorem mo255 : mQ (⟨"GallopDispatchModel", "who", "(II)I"⟩, prog_13_method_95_code, 5, some (.int)) := ⟨wd267, plainFor_of_name pl11.1, wd173, pl11.2.1, pl11.2.2, by decide⟩
theorem wd268 : Cond.code ⟨"GallopDispatchModel", "mostTell", "(I)I"⟩ prog_13_method_96_code 6 (Option.some FieldType.int) ∈ aWs := mT8 93 rfl rfl
set_option maxRecDepth 10000 in
theorem mi256 : aMI 256 = some (⟨"GallopDispatchModel", "mostTell", "(I)I"⟩, prog_13_method_96_code, 6, some (.int)) := rfl
theorem mo256 : mQ (⟨"GallopDispatchModel", "mostTell", "(I)I"⟩, prog_13_method_96_code, 6, some (.int)) := ⟨wd268, plainFor_of_name pl11.1, wd173, pl11.2.1, pl11.2.2, by decide⟩
theorem wd269 : Cond.code ⟨"GallopDispatchModel", "best", "(I)I"⟩ prog_13_method_97_code 6 (Option.some FieldType.int) ∈ aWs := mT8 88 rfl rfl
set_option maxRecDepth 10000 in
theorem mi257 : aMI 257 = some (⟨"GallopDispatchModel", "best", "(I)I"⟩, prog_13_method_97_code, 6, some (.int)) := rfl
theorem mo257 : mQ (⟨"GallopDispatchModel", "best", "(I)I"⟩, prog_13_method_97_code, 6, some (.int)) := ⟨wd269, plainFor_of_name pl11.1, wd173, pl11.2.1, pl11.2.2, by decide⟩
theorem wd270 : Cond.code ⟨"GallopDispatchModel", "pensionOf", "(III)I"⟩ prog_13_method_98_code 6 (Option.some FieldType.int) ∈ aWs := mT8 101 rfl rfl
set_option maxRecDepth 10000 in
theorem mi258 : aMI 258 = some (⟨"GallopDispatchModel", "pensionOf", "(III)I"⟩, prog_13_method_98_code, 6, some (.int)) := rfl
theorem mo258 : mQ (⟨"GallopDispatchModel", "pensionOf", "(III)I"⟩, prog_13_method_98_code, 6, some (.int)) := ⟨wd270, plainFor_of_name pl11.1, wd173, pl11.2.1, pl11.2.2, by decide⟩
theorem wd271 : Cond.code ⟨"GallopDispatchModel", "pension", "(III)I"⟩ prog_13_method_99_code 4 (Option.some FieldType.int) ∈ aWs := mT8 97 rfl rfl
set_option maxRecDepth 10000 in
theorem mi259 : aMI 259 = some (⟨"GallopDispatchModel", "pension", "(III)I"⟩, prog_13_method_99_code, 4, some (.int)) := rfl
theorem mo259 : mQ (⟨"GallopDispatchModel", "pension", "(III)I"⟩, prog_13_method_99_code, 4, some (.int)) := ⟨wd271, plainFor_of_name pl11.1, wd173, pl11.2.1, pl11.2.2, by decide⟩
theorem wd272 : Cond.code ⟨"GallopDispatchModel", "unfair", "(I)I"⟩ prog_13_method_100_code 4 (Option.some FieldType.int) ∈ aWs := mT8 105 rfl rfl
set_option maxRecDepth 10000 in
theorem mi260 : aMI 260 = some (⟨"GallopDispatchModel", "unfair", "(I)I"⟩, prog_13_method_100_code, 4, some (.int)) := rfl
theorem mo260 : mQ (⟨"GallopDispatchModel", "unfair", "(I)I"⟩, prog_13_method_100_code, 4, some (.int)) := ⟨wd272, plainFor_of_name pl11.1, wd173, pl11.2.1, pl11.2.2, by decide⟩
theorem wd273 : Cond.code ⟨"GallopDispatchModel", "gameOf", "(IIII)I"⟩ prog_13_method_101_code 8 (Option.some FieldType.int) ∈ aWs := mT8 118 rfl rfl
set_option maxRecDepth 10000 in
theorem mi261 : aMI 261 = some (⟨"GallopDispatchModel", "gameOf", "(IIII)I"⟩, prog_13_method_101_code, 8, some (.int)) := rfl
theorem mo261 : mQ (⟨"GallopDispatchModel", "gameOf", "(IIII)I"⟩, prog_13_method_101_code, 8, some (.int)) := ⟨wd273, plainFor_of_name pl11.1, wd173, pl11.2.1, pl11.2.2, by decide⟩
theorem wd274 : Cond.code ⟨"GallopDispatchModel", "areTwo", "(II)Z"⟩ prog_13_method_102_code 3 (Option.some FieldType.boolean) ∈ aWs := mT8 113 rfl rfl
set_option maxRecDepth 10000 in
theorem mi262 : aMI 262 = some (⟨"GallopDispatchModel", "areTwo", "(II)Z"⟩, prog_13_method_102_code, 3, some (.boolean)) := rfl
theorem mo262 : mQ (⟨"GallopDispatchModel", "areTwo", "(II)Z"⟩, prog_13_method_102_code, 3, some (.boolean)) := ⟨wd274, plainFor_of_name pl11.1, wd173, pl11.2.1, pl11.2.2, by decide⟩
theorem wd275 : Cond.code ⟨"GallopDispatchModel", "game", "(IIIII)I"⟩ prog_13_method_103_code 6 (Option.some FieldType.int) ∈ aWs := mT8 109 rfl rfl
set_option maxRecDepth 10000 in
theorem mi263 : aMI 263 = some (⟨"GallopDispatchModel", "game", "(IIIII)I"⟩, prog_13_method_103_code, 6, some (.int)) := rfl
theorem mo263 : mQ (⟨"GallopDispatchModel", "game", "(IIIII)I"⟩, prog_13_method_103_code, 6, some (.int)) := ⟨wd275, plainFor_of_name pl11.1, wd173, pl11.2.1, pl11.2.2, by decide⟩
theorem wd276 : Cond.code ⟨"GallopDispatchModel", "isRest", "(IIII)Z"⟩ prog_13_method_104_code 6 (Option.some FieldType.boolean) ∈ aWs := mT8 126 rfl rfl
set_option maxRecDepth 10000 in
theorem mi264 : aMI 264 = some (⟨"GallopDispatchModel", "isRest", "(IIII)Z"⟩, prog_13_method_104_code, 6, some (.boolean)) := rfl
theorem mo264 : mQ (⟨"GallopDispatchModel", "isRest", "(IIII)Z"⟩, prog_13_method_104_code, 6, some (.boolean)) := ⟨wd276, plainFor_of_name pl11.1, wd173, pl11.2.1, pl11.2.2, by decide⟩
theorem wd277 : Cond.code ⟨"GallopDispatchModel", "rests", "(III)I"⟩ prog_13_method_105_code 6 (Option.some FieldType.int) ∈ aWs := mT8 122 rfl rfl
set_option maxRecDepth 10000 in
theorem mi265 : aMI 265 = some (⟨"GallopDispatchModel", "rests", "(III)I"⟩, prog_13_method_105_code, 6, some (.int)) := rfl
theorem mo265 : mQ (⟨"GallopDispatchModel", "rests", "(III)I"⟩, prog_13_method_105_code, 6, some (.int)) := ⟨wd277, plainFor_of_name pl11.1, wd173, pl11.2.1, pl11.2.2, by decide⟩
theorem wd278 : Cond.code ⟨"GallopDispatchModel", "odds", "(II)I"⟩ prog_13_method_106_code 11 (Option.some FieldType.int) ∈ aWs := mT8 130 rfl rfl
set_option maxRecDepth 10000 in
theorem mi266 : aMI 266 = some (⟨"GallopDispatchModel", "odds", "(II)I"⟩, prog_13_method_106_code, 11, some (.int)) := rfl
theorem mo266 : mQ (⟨"GallopDispatchModel", "odds", "(II)I"⟩, prog_13_method_106_code, 11, some (.int)) := ⟨wd278, plainFor_of_name pl11.1, wd173, pl11.2.1, pl11.2.2, by decide⟩
theorem wd279 : Cond.code ⟨"GallopDispatchModel", "loudest", "(I)I"⟩ prog_13_method_107_code 2 (Option.some FieldType.int) ∈ aWs := mT8 136 rfl rfl
set_option maxRecDepth 10000 in
theorem mi267 : aMI 267 = some (⟨"GallopDispatchModel", "loudest", "(I)I"⟩, prog_13_method_107_code, 2, some (.int)) := rfl
theorem mo267 : mQ (⟨"GallopDispatchModel", "loudest", "(I)I"⟩, prog_13_method_107_code, 2, some (.int)) := ⟨wd279, plainFor_of_name pl11.1, wd173, pl11.2.1, pl11.2.2, by decide⟩
theorem wd280 : Cond.code ⟨"GallopDispatchModel", "span", "(I)I"⟩ prog_13_method_108_code 4 (Option.some FieldType.int) ∈ aWs := mT8 140 rfl rfl
set_option maxRecDepth 10000 in
theorem mi268 : aMI 268 = some (⟨"GallopDispatchModel", "span", "(I)I"⟩, prog_13_method_108_code, 4, some (.int)) := rfl
theorem mo268 : mQ (⟨"GallopDispatchModel", "span", "(I)I"⟩, prog_13_method_108_code, 4, some (.int)) := ⟨wd280, plainFor_of_name pl11.1, wd173, pl11.2.1, pl11.2.2, by decide⟩
theorem wd281 : Cond.code ⟨"GallopDispatchModel", "nearest", "(I)I"⟩ prog_13_method_109_code 4 (Option.some FieldType.int) ∈ aWs := mT8 144 rfl rfl
set_option maxRecDepth 10000 in
theorem mi269 : aMI 269 = some (⟨"GallopDispatchModel", "nearest", "(I)I"⟩, prog_13_method_109_code, 4, some (.int)) := rfl
theorem mo269 : mQ (⟨"GallopDispatchModel", "nearest", "(I)I"⟩, prog_13_method_109_code, 4, some (.int)) := ⟨wd281, plainFor_of_name pl11.1, wd173, pl11.2.1, pl11.2.2, by decide⟩
theorem wd282 : Cond.code ⟨"GallopDispatchModel", "valueOf", "(II)I"⟩ prog_13_method_110_code 3 (Option.some FieldType.int) ∈ aWs := mT8 152 rfl rfl
set_option maxRecDepth 10000 in
theorem mi270 : aMI 270 = some (⟨"GallopDispatchModel", "valueOf", "(II)I"⟩, prog_13_method_110_code, 3, some (.int)) := rfl
theorem mo270 : mQ (⟨"GallopDispatchModel", "valueOf", "(II)I"⟩, prog_13_method_110_code, 3, some (.int)) := ⟨wd282, plainFor_of_name pl11.1, wd173, pl11.2.1, pl11.2.2, by decide⟩
theorem wd283 : Cond.code ⟨"GallopDispatchModel", "deepest", "()I"⟩ prog_13_method_111_code 3 (Option.some FieldType.int) ∈ aWs := mT8 156 rfl rfl
set_option maxRecDepth 10000 in
theorem mi271 : aMI 271 = some (⟨"GallopDispatchModel", "deepest", "()I"⟩, prog_13_method_111_code, 3, some (.int)) := rfl
theorem mo271 : mQ (⟨"GallopDispatchModel", "deepest", "()I"⟩, prog_13_method_111_code, 3, some (.int)) := ⟨wd283, plainFor_of_name pl11.1, wd173, pl11.2.1, pl11.2.2, by decide⟩
theorem wd284 : Cond.code ⟨"GallopDispatchModel", "most", "(I)I"⟩ prog_13_method_112_code 4 (Option.some FieldType.int) ∈ aWs := mT8 148 rfl rfl
set_option maxRecDepth 10000 in
theorem mi272 : aMI 272 = some (⟨"GallopDispatchModel", "most", "(I)I"⟩, prog_13_method_112_code, 4, some (.int)) := rfl
theorem mo272 : mQ (⟨"GallopDispatchModel", "most", "(I)I"⟩, prog_13_method_112_code, 4, some (.int)) := ⟨wd284, plainFor_of_name pl11.1, wd173, pl11.2.1, pl11.2.2, by decide⟩
theorem wd285 : Cond.code ⟨"GallopDispatchModel", "ahead", "(II)I"⟩ prog_13_method_113_code 5 (Option.some FieldType.int) ∈ aWs := mT8 160 rfl rfl
set_option maxRecDepth 10000 in
theorem mi273 : aMI 273 = some (⟨"GallopDispatchModel", "ahead", "(II)I"⟩, prog_13_method_113_code, 5, some (.int)) := rfl
theorem mo273 : mQ (⟨"GallopDispatchModel", "ahead", "(II)I"⟩, prog_13_method_113_code, 5, some (.int)) := ⟨wd285, plainFor_of_name pl11.1, wd173, pl11.2.1, pl11.2.2, by decide⟩
theorem wd286 : Cond.code ⟨"GallopDispatchModel", "image", "()I"⟩ prog_13_method_114_code 2 (Option.some FieldType.int) ∈ aWs := mT8 164 rfl rfl
set_option maxRecDepth 10000 in
theorem mi274 : aMI 274 = some (⟨"GallopDispatchModel", "image", "()I"⟩, prog_13_method_114_code, 2, some (.int)) := rfl
theorem mo274 : mQ (⟨"GallopDispatchModel", "image", "()I"⟩, prog_13_method_114_code, 2, some (.int)) := ⟨wd286, plainFor_of_name pl11.1, wd173, pl11.2.1, pl11.2.2, by decide⟩
theorem wd287 : Cond.code ⟨"GallopDispatchModel", "back", "()I"⟩ prog_13_method_115_code 2 (Option.some FieldType.int) ∈ aWs := mT8 168 rfl rfl
set_option maxRecDepth 10000 in
theorem mi275 : aMI 275 = some (⟨"GallopDispatchModel", "back", "()I"⟩, prog_13_method_115_code, 2, some (.int)) := rfl
theorem mo275 : mQ (⟨"GallopDispatchModel", "back", "()I"⟩, prog_13_method_115_code, 2, some (.int)) := ⟨wd287, plainFor_of_name pl11.1, wd173, pl11.2.1, pl11.2.2, by decide⟩
theorem wd288 : Cond.code ⟨"GallopDispatchModel", "count", "(I)I"⟩ prog_13_method_116_code 4 (Option.some FieldType.int) ∈ aWs := mT8 172 rfl rfl
set_option maxRecDepth 10000 in
theorem mi276 : aMI 276 = some (⟨"GallopDispatchModel", "count", "(I)I"⟩, prog_13_method_116_code, 4, some (.int)) := rfl
theorem mo276 : mQ (⟨"GallopDispatchModel", "count", "(I)I"⟩, prog_13_method_116_code, 4, some (.int)) := ⟨wd288, plainFor_of_name pl11.1, wd173, pl11.2.1, pl11.2.2, by decide⟩
theorem wd289 : Cond.code ⟨"java/lang/Integer", "bitCount", "(I)I"⟩ prog_19_method_49_code 1 (Option.some FieldType.int) ∈ aWs := mT4 184 rfl rfl
theorem wd290 : Cond.initialized "java/lang/Integer" ∈ aWs := mT1 25 rfl rfl
set_option maxRecDepth 10000 in
theorem mi277 : aMI 277 = some (⟨"java/lang/Integer", "bitCount", "(I)I"⟩, prog_19_method_49_code, 1, some (.int)) := rfl
theorem mo277 : mQ (⟨"java/lang/Integer", "bitCount", "(I)I"⟩, prog_19_method_49_code, 1, some (.int)) := ⟨wd289, plainFor_of_name pl12.1, wd290, pl12.2.1, pl12.2.2, by decide⟩
theorem wd291 : Cond.code ⟨"java/lang/Math", "floorMod", "(II)I"⟩ prog_20_method_50_code 3 (Option.some FieldType.int) ∈ aWs := mT4 194 rfl rfl
theorem wd292 : Cond.initialized "java/lang/Math" ∈ aWs := mT1 13 rfl rfl
set_option maxRecDepth 10000 in
theorem mi278 : aMI 278 = some (⟨"java/lang/Math", "floorMod", "(II)I"⟩, prog_20_method_50_code, 3, some (.int)) := rfl
theorem mo278 : mQ (⟨"java/lang/Math", "floorMod", "(II)I"⟩, prog_20_method_50_code, 3, some (.int)) := ⟨wd291, by decide +kernel, wd292, pl13.2.1, pl13.2.2, by decide⟩
theorem wd293 : Cond.code ⟨"java/lang/Math", "abs", "(I)I"⟩ prog_20_method_59_code 1 (Option.some FieldType.int) ∈ aWs := mT4 61 rfl rfl
set_option maxRecDepth 10000 in
theorem mi279 : aMI 279 = some (⟨"java/lang/Math", "abs", "(I)I"⟩, prog_20_method_59_code, 1, some (.int)) := rfl
theorem mo279 : mQ (⟨"java/lang/Math", "abs", "(I)I"⟩, prog_20_method_59_code, 1, some (.int)) := ⟨wd293, by decide +kernel, wd292, pl13.2.1, pl13.2.2, by decide⟩
theorem wd294 : Cond.code ⟨"java/lang/Math", "max", "(II)I"⟩ prog_20_method_65_code 2 (Option.some FieldType.int) ∈ aWs := mT3 13 rfl rfl
set_option maxRecDepth 10000 in
theorem mi280 : aMI 280 = some (⟨"java/lang/Math", "max", "(II)I"⟩, prog_20_method_65_code, 2, some (.int)) := rfl
theorem mo280 : mQ (⟨"java/lang/Math", "max", "(II)I"⟩, prog_20_method_65_code, 2, some (.int)) := ⟨wd294, by decide +kernel, wd292, pl13.2.1, pl13.2.2, by decide⟩
theorem wd295 : Cond.code ⟨"java/lang/Math", "max", "(JJ)J"⟩ prog_20_method_66_code 4 (Option.some FieldType.long) ∈ aWs := mT7 163 rfl rfl
set_option maxRecDepth 10000 in
theorem mi281 : aMI 281 = some (⟨"java/lang/Math", "max", "(JJ)J"⟩, prog_20_method_66_code, 4, some (.long)) := rfl
theorem mo281 : mQ (⟨"java/lang/Math", "max", "(JJ)J"⟩, prog_20_method_66_code, 4, some (.long)) := ⟨wd295, by decide +kernel, wd292, pl13.2.1, pl13.2.2, by decide⟩
theorem wd296 : Cond.code ⟨"java/lang/Math", "min", "(II)I"⟩ prog_20_method_69_code 2 (Option.some FieldType.int) ∈ aWs := mT2 194 rfl rfl
set_option maxRecDepth 10000 in
theorem mi282 : aMI 282 = some (⟨"java/lang/Math", "min", "(II)I"⟩, prog_20_method_69_code, 2, some (.int)) := rfl
theorem mo282 : mQ (⟨"java/lang/Math", "min", "(II)I"⟩, prog_20_method_69_code, 2, some (.int)) := ⟨wd296, by decide +kernel, wd292, pl13.2.1, pl13.2.2, by decide⟩
theorem wd297 : Cond.code ⟨"java/lang/Math", "min", "(JJ)J"⟩ prog_20_method_70_code 4 (Option.some FieldType.long) ∈ aWs := mT7 160 rfl rfl
set_option maxRecDepth 10000 in
theorem mi283 : aMI 283 = some (⟨"java/lang/Math", "min", "(JJ)J"⟩, prog_20_method_70_code, 4, some (.long)) := rfl
theorem mo283 : mQ (⟨"java/lang/Math", "min", "(JJ)J"⟩, prog_20_method_70_code, 4, some (.long)) := ⟨wd297, by decide +kernel, wd292, pl13.2.1, pl13.2.2, by decide⟩
theorem wd298 : Cond.code ⟨"java/lang/String", "length", "()I"⟩ prog_22_method_54_code 1 (Option.some FieldType.int) ∈ aWs := mT2 222 rfl rfl
theorem wd299 : Cond.initialized "java/lang/String" ∈ aWs := mT1 15 rfl rfl
