-- deps: 9u.throw
/-! ===== a small table: man of the law, man of the class where it returns, isMan ===== -/
def yMan : MethodName := ⟨"GallopDispatch", "man", "(II)I"⟩
def yIsM : MethodName := ⟨"GallopDispatch", "isMan", "(I)Z"⟩
def nsE : String := "java/util/NoSuchElementException"
def mWs : List Cond := [.code yMan prog_1_method_9_code 3 (some .int), .initialized "GallopDispatch", .initialized "GallopDispatchLaw", .methodLink "GallopDispatchLaw" 7 yMan, .instanceMethod yMan, .selects "GallopDispatch" yMan yMan,
  .fieldLink "GallopDispatch" 46 "GallopDispatch" "now" "LGallopDispatch$State;", .fieldLink "GallopDispatch" 191 "GallopDispatch$State" "stands" "[I", .fieldLink "GallopDispatch" 194 "GallopDispatch$State" "voices" "[I", .fieldLink "GallopDispatch" 197 "GallopDispatch$State" "deeds" "[I", .fieldLink "GallopDispatch" 35 "GallopDispatch" "told" "LGallopDispatch$Told;", .fieldLink "GallopDispatch" 200 "GallopDispatch$Told" "men" "[[I", .fieldLink "GallopDispatch" 203 "GallopDispatch$State" "glory" "[I", .fieldLink "GallopDispatch" 152 "GallopDispatch$Told" "menCount" "I",
  .methodLink "GallopDispatch" 180 yIsM, .instanceMethod yIsM, .selects "GallopDispatch" yIsM yIsM, .code yIsM prog_1_method_16_code 2 (some .boolean),
  .classLink "GallopDispatch" 184 nsE, .initialized nsE, .codeWith aYman method_3_code 5 (some .int) [(0, 10, 13, 13)], .static aYman, .classLink "GallopDispatchLaw" 13 nsE]
theorem mWs_in : ∀ w ∈ mWs, w ∈ lw_tbl := by decide +kernel
theorem mWs_gd : ∀ w ∈ mWs, goodWord w = true := by decide +kernel
theorem mWs_ok {w : Cond} (i : Nat) (h : mWs[i]? = some w) : w ∈ aWs := List.mem_filter.mpr ⟨mWs_in w (List.mem_of_getElem? h), mWs_gd w (List.mem_of_getElem? h)⟩
def miM : aMi := fun k => if k = 300 then some (aYman, method_3_code, 5, some .int) else if k = 299 then some (yMan, prog_1_method_9_code, 3, some .int) else if k = 102 then some (yIsM, prog_1_method_16_code, 2, some .boolean) else none
def mc300 : List (Nat × aI) := [(0, .aload_n 3, 1, 0, 0, 0), (1, .iconst 0, 1, 0, 0, 0), (2, .aload_n 0, 1, 0, 0, 0), (3, .iload_n 1, 1, 0, 0, 0), (4, .iload_n 2, 1, 0, 0, 0), (5, .invokevirtual 7, 3, 299, 2, 10), (8, .i2l, 1, 0, 0, 0), (9, .lastore, 1, 0, 0, 0), (10, .goto 7, 3, 0, 0, 0), (15, .iconst 1, 1, 0, 0, 0), (16, .ireturn, 1, 0, 0, 0), (17, .iconst 0, 1, 0, 0, 0), (18, .ireturn, 1, 0, 0, 0)]
def mc299 : List (Nat × aI) := [(0, .aload_n 0, 1, 0, 0, 0), (1, .iload_n 1, 1, 0, 0, 0), (2, .invokevirtual 180, 3, 102, 1, 10), (5, .ifCond .eq 12, 3, 0, 0, 0), (8, .iload_n 2, 1, 0, 0, 0), (9, .ifCond .lt 8, 3, 0, 0, 0), (12, .iload_n 2, 1, 0, 0, 0), (13, .iconst 4, 1, 0, 0, 0), (14, .if_icmp .le 13, 3, 0, 0, 0), (27, .iload_n 2, 1, 0, 0, 0), (28, .tableswitch 74 0 3 #[32, 42, 52, 62], 32, 0, 0, 0),
  (60, .aload_n 0, 1, 0, 0, 0), (61, .getfield 46, 3, 10, 5, 2), (64, .getfield 191, 3, 7, 0, 2), (67, .iload_n 1, 1, 0, 0, 0), (68, .iaload, 1, 0, 0, 0), (69, .ireturn, 1, 0, 0, 0),
  (70, .aload_n 0, 1, 0, 0, 0), (71, .getfield 46, 3, 10, 5, 2), (74, .getfield 194, 3, 7, 1, 2), (77, .iload_n 1, 1, 0, 0, 0), (78, .iaload, 1, 0, 0, 0), (79, .ireturn, 1, 0, 0, 0),
  (80, .aload_n 0, 1, 0, 0, 0), (81, .getfield 46, 3, 10, 5, 2), (84, .getfield 197, 3, 7, 2, 2), (87, .iload_n 1, 1, 0, 0, 0), (88, .iaload, 1, 0, 0, 0), (89, .ireturn, 1, 0, 0, 0),
  (90, .aload_n 0, 1, 0, 0, 0), (91, .getfield 35, 3, 10, 3, 2), (94, .getfield 200, 3, 9, 1, 2), (97, .iload_n 1, 1, 0, 0, 0), (98, .aaload, 1, 104, 0, 0), (99, .iconst 3, 1, 0, 0, 0), (100, .iaload, 1, 0, 0, 0), (101, .ireturn, 1, 0, 0, 0),
  (102, .aload_n 0, 1, 0, 0, 0), (103, .getfield 46, 3, 10, 5, 2), (106, .getfield 203, 3, 7, 3, 2), (109, .iload_n 1, 1, 0, 0, 0), (110, .iaload, 1, 0, 0, 0), (111, .ireturn, 1, 0, 0, 0)]
def mc102 : List (Nat × aI) := [(0, .iload_n 1, 1, 0, 0, 0), (1, .ifCond .lt 18, 3, 0, 0, 0), (4, .iload_n 1, 1, 0, 0, 0), (5, .aload_n 0, 1, 0, 0, 0), (6, .getfield 35, 3, 10, 3, 2), (9, .getfield 152, 3, 9, 3, 0), (12, .if_icmp .ge 7, 3, 0, 0, 0), (15, .iconst 1, 1, 0, 0, 0), (16, .goto 4, 3, 0, 0, 0), (19, .iconst 0, 1, 0, 0, 0), (20, .ireturn, 1, 0, 0, 0)]
def cdL (k : Nat) : List (Nat × aI) := if k = 300 then mc300 else if k = 299 then mc299 else if k = 102 then mc102 else []
def cd2 : aCd := fun k pc => ((cdL k).find? (fun e => e.1 == pc)).map (fun e => e.2)
def okE (y : MethodName) (b : ByteArray) (e : Nat × aI) : Prop := decode b e.1 = .ok (e.2.1, e.2.2.1) ∧ (e.2.2.1 = aLn e.2.1 ∨ (∃ a b c d, e.2.1 = .tableswitch a b c d) ∨ ∃ a b, e.2.1 = .lookupswitch a b) ∧ aVal miM y e.2.1 e.2.2.2.1 e.2.2.2.2.1 e.2.2.2.2.2
theorem mc300_0 : okE aYman method_3_code (0, .aload_n 3, 1, 0, 0, 0) := ⟨by decide +kernel, Or.inl rfl, trivial⟩
theorem mc300_1 : okE aYman method_3_code (1, .iconst 0, 1, 0, 0, 0) := ⟨by decide +kernel, Or.inl rfl, trivial⟩
theorem mc300_2 : okE aYman method_3_code (2, .aload_n 0, 1, 0, 0, 0) := ⟨by decide +kernel, Or.inl rfl, trivial⟩
theorem mc300_3 : okE aYman method_3_code (3, .iload_n 1, 1, 0, 0, 0) := ⟨by decide +kernel, Or.inl rfl, trivial⟩
theorem mc300_4 : okE aYman method_3_code (4, .iload_n 2, 1, 0, 0, 0) := ⟨by decide +kernel, Or.inl rfl, trivial⟩
theorem mc300_5 : okE aYman method_3_code (5, .invokevirtual 7, 3, 299, 2, 10) := ⟨by decide +kernel, Or.inl rfl, fun z b mL rt h => by cases h; exact ⟨mWs_ok 3 rfl, mWs_ok 4 rfl, mWs_ok 5 rfl, by decide +kernel, Or.inr ⟨_, rfl, rfl⟩⟩⟩
theorem mc300_8 : okE aYman method_3_code (8, .i2l, 1, 0, 0, 0) := ⟨by decide +kernel, Or.inl rfl, trivial⟩
theorem mc300_9 : okE aYman method_3_code (9, .lastore, 1, 0, 0, 0) := ⟨by decide +kernel, Or.inl rfl, trivial⟩
theorem mc300_10 : okE aYman method_3_code (10, .goto 7, 3, 0, 0, 0) := ⟨by decide +kernel, Or.inl rfl, trivial⟩
theorem mc300_15 : okE aYman method_3_code (15, .iconst 1, 1, 0, 0, 0) := ⟨by decide +kernel, Or.inl rfl, trivial⟩
theorem mc300_16 : okE aYman method_3_code (16, .ireturn, 1, 0, 0, 0) := ⟨by decide +kernel, Or.inl rfl, trivial⟩
theorem mc300_17 : okE aYman method_3_code (17, .iconst 0, 1, 0, 0, 0) := ⟨by decide +kernel, Or.inl rfl, trivial⟩
theorem mc300_18 : okE aYman method_3_code (18, .ireturn, 1, 0, 0, 0) := ⟨by decide +kernel, Or.inl rfl, trivial⟩
theorem mc300_ok : ∀ e ∈ mc300, okE aYman method_3_code e := List.forall_mem_cons.mpr ⟨mc300_0, List.forall_mem_cons.mpr ⟨mc300_1, List.forall_mem_cons.mpr ⟨mc300_2, List.forall_mem_cons.mpr ⟨mc300_3, List.forall_mem_cons.mpr ⟨mc300_4, List.forall_mem_cons.mpr ⟨mc300_5, List.forall_mem_cons.mpr ⟨mc300_8, List.forall_mem_cons.mpr ⟨mc300_9, List.forall_mem_cons.mpr ⟨mc300_10, List.forall_mem_cons.mpr ⟨mc300_15, List.forall_mem_cons.mpr ⟨mc300_16, List.forall_mem_cons.mpr ⟨mc300_17, List.forall_mem_cons.mpr ⟨mc300_18, fun _ h => absurd h List.not_mem_nil⟩⟩⟩⟩⟩⟩⟩⟩⟩⟩⟩⟩⟩
theorem mc299_0 : okE yMan prog_1_method_9_code (0, .aload_n 0, 1, 0, 0, 0) := ⟨by decide +kernel, Or.inl rfl, trivial⟩
theorem mc299_1 : okE yMan prog_1_method_9_code (1, .iload_n 1, 1, 0, 0, 0) := ⟨by decide +kernel, Or.inl rfl, trivial⟩
theorem mc299_2 : okE yMan prog_1_method_9_code (2, .invokevirtual 180, 3, 102, 1, 10) := ⟨by decide +kernel, Or.inl rfl, fun z b mL rt h => by cases h; exact ⟨mWs_ok 14 rfl, mWs_ok 15 rfl, mWs_ok 16 rfl, by decide +kernel, Or.inr ⟨_, rfl, rfl⟩⟩⟩
theorem mc299_5 : okE yMan prog_1_method_9_code (5, .ifCond .eq 12, 3, 0, 0, 0) := ⟨by decide +kernel, Or.inl rfl, trivial⟩
theorem mc299_8 : okE yMan prog_1_method_9_code (8, .iload_n 2, 1, 0, 0, 0) := ⟨by decide +kernel, Or.inl rfl, trivial⟩
theorem mc299_9 : okE yMan prog_1_method_9_code (9, .ifCond .lt 8, 3, 0, 0, 0) := ⟨by decide +kernel, Or.inl rfl, trivial⟩
theorem mc299_12 : okE yMan prog_1_method_9_code (12, .iload_n 2, 1, 0, 0, 0) := ⟨by decide +kernel, Or.inl rfl, trivial⟩
theorem mc299_13 : okE yMan prog_1_method_9_code (13, .iconst 4, 1, 0, 0, 0) := ⟨by decide +kernel, Or.inl rfl, trivial⟩
theorem mc299_14 : okE yMan prog_1_method_9_code (14, .if_icmp .le 13, 3, 0, 0, 0) := ⟨by decide +kernel, Or.inl rfl, trivial⟩
theorem mc299_27 : okE yMan prog_1_method_9_code (27, .iload_n 2, 1, 0, 0, 0) := ⟨by decide +kernel, Or.inl rfl, trivial⟩
theorem mc299_28 : okE yMan prog_1_method_9_code (28, .tableswitch 74 0 3 #[32, 42, 52, 62], 32, 0, 0, 0) := ⟨by decide +kernel, Or.inr (Or.inl ⟨_, _, _, _, rfl⟩), trivial⟩
theorem mc299_60 : okE yMan prog_1_method_9_code (60, .aload_n 0, 1, 0, 0, 0) := ⟨by decide +kernel, Or.inl rfl, trivial⟩
theorem mc299_61 : okE yMan prog_1_method_9_code (61, .getfield 46, 3, 10, 5, 2) := ⟨by decide +kernel, Or.inl rfl, Or.inl ⟨_, rfl, mWs_ok 6 rfl, rfl⟩⟩
theorem mc299_64 : okE yMan prog_1_method_9_code (64, .getfield 191, 3, 7, 0, 2) := ⟨by decide +kernel, Or.inl rfl, Or.inl ⟨_, rfl, mWs_ok 7 rfl, rfl⟩⟩
theorem mc299_67 : okE yMan prog_1_method_9_code (67, .iload_n 1, 1, 0, 0, 0) := ⟨by decide +kernel, Or.inl rfl, trivial⟩
theorem mc299_68 : okE yMan prog_1_method_9_code (68, .iaload, 1, 0, 0, 0) := ⟨by decide +kernel, Or.inl rfl, trivial⟩
theorem mc299_69 : okE yMan prog_1_method_9_code (69, .ireturn, 1, 0, 0, 0) := ⟨by decide +kernel, Or.inl rfl, trivial⟩
theorem mc299_70 : okE yMan prog_1_method_9_code (70, .aload_n 0, 1, 0, 0, 0) := ⟨by decide +kernel, Or.inl rfl, trivial⟩
theorem mc299_71 : okE yMan prog_1_method_9_code (71, .getfield 46, 3, 10, 5, 2) := ⟨by decide +kernel, Or.inl rfl, Or.inl ⟨_, rfl, mWs_ok 6 rfl, rfl⟩⟩
theorem mc299_74 : okE yMan prog_1_method_9_code (74, .getfield 194, 3, 7, 1, 2) := ⟨by decide +kernel, Or.inl rfl, Or.inl ⟨_, rfl, mWs_ok 8 rfl, rfl⟩⟩
theorem mc299_77 : okE yMan prog_1_method_9_code (77, .iload_n 1, 1, 0, 0, 0) := ⟨by decide +kernel, Or.inl rfl, trivial⟩
theorem mc299_78 : okE yMan prog_1_method_9_code (78, .iaload, 1, 0, 0, 0) := ⟨by decide +kernel, Or.inl rfl, trivial⟩
theorem mc299_79 : okE yMan prog_1_method_9_code (79, .ireturn, 1, 0, 0, 0) := ⟨by decide +kernel, Or.inl rfl, trivial⟩
theorem mc299_80 : okE yMan prog_1_method_9_code (80, .aload_n 0, 1, 0, 0, 0) := ⟨by decide +kernel, Or.inl rfl, trivial⟩
theorem mc299_81 : okE yMan prog_1_method_9_code (81, .getfield 46, 3, 10, 5, 2) := ⟨by decide +kernel, Or.inl rfl, Or.inl ⟨_, rfl, mWs_ok 6 rfl, rfl⟩⟩
theorem mc299_84 : okE yMan prog_1_method_9_code (84, .getfield 197, 3, 7, 2, 2) := ⟨by decide +kernel, Or.inl rfl, Or.inl ⟨_, rfl, mWs_ok 9 rfl, rfl⟩⟩
theorem mc299_87 : okE yMan prog_1_method_9_code (87, .iload_n 1, 1, 0, 0, 0) := ⟨by decide +kernel, Or.inl rfl, trivial⟩
theorem mc299_88 : okE yMan prog_1_method_9_code (88, .iaload, 1, 0, 0, 0) := ⟨by decide +kernel, Or.inl rfl, trivial⟩
theorem mc299_89 : okE yMan prog_1_method_9_code (89, .ireturn, 1, 0, 0, 0) := ⟨by decide +kernel, Or.inl rfl, trivial⟩
theorem mc299_90 : okE yMan prog_1_method_9_code (90, .aload_n 0, 1, 0, 0, 0) := ⟨by decide +kernel, Or.inl rfl, trivial⟩
theorem mc299_91 : okE yMan prog_1_method_9_code (91, .getfield 35, 3, 10, 3, 2) := ⟨by decide +kernel, Or.inl rfl, Or.inl ⟨_, rfl, mWs_ok 10 rfl, rfl⟩⟩
theorem mc299_94 : okE yMan prog_1_method_9_code (94, .getfield 200, 3, 9, 1, 2) := ⟨by decide +kernel, Or.inl rfl, Or.inl ⟨_, rfl, mWs_ok 11 rfl, rfl⟩⟩
theorem mc299_97 : okE yMan prog_1_method_9_code (97, .iload_n 1, 1, 0, 0, 0) := ⟨by decide +kernel, Or.inl rfl, trivial⟩
theorem mc299_98 : okE yMan prog_1_method_9_code (98, .aaload, 1, 104, 0, 0) := ⟨by decide +kernel, Or.inl rfl, trivial⟩
theorem mc299_99 : okE yMan prog_1_method_9_code (99, .iconst 3, 1, 0, 0, 0) := ⟨by decide +kernel, Or.inl rfl, trivial⟩
theorem mc299_100 : okE yMan prog_1_method_9_code (100, .iaload, 1, 0, 0, 0) := ⟨by decide +kernel, Or.inl rfl, trivial⟩
theorem mc299_101 : okE yMan prog_1_method_9_code (101, .ireturn, 1, 0, 0, 0) := ⟨by decide +kernel, Or.inl rfl, trivial⟩
theorem mc299_102 : okE yMan prog_1_method_9_code (102, .aload_n 0, 1, 0, 0, 0) := ⟨by decide +kernel, Or.inl rfl, trivial⟩
theorem mc299_103 : okE yMan prog_1_method_9_code (103, .getfield 46, 3, 10, 5, 2) := ⟨by decide +kernel, Or.inl rfl, Or.inl ⟨_, rfl, mWs_ok 6 rfl, rfl⟩⟩
theorem mc299_106 : okE yMan prog_1_method_9_code (106, .getfield 203, 3, 7, 3, 2) := ⟨by decide +kernel, Or.inl rfl, Or.inl ⟨_, rfl, mWs_ok 12 rfl, rfl⟩⟩
theorem mc299_109 : okE yMan prog_1_method_9_code (109, .iload_n 1, 1, 0, 0, 0) := ⟨by decide +kernel, Or.inl rfl, trivial⟩
theorem mc299_110 : okE yMan prog_1_method_9_code (110, .iaload, 1, 0, 0, 0) := ⟨by decide +kernel, Or.inl rfl, trivial⟩
theorem mc299_111 : okE yMan prog_1_method_9_code (111, .ireturn, 1, 0, 0, 0) := ⟨by decide +kernel, Or.inl rfl, trivial⟩
theorem mc299_ok : ∀ e ∈ mc299, okE yMan prog_1_method_9_code e := List.forall_mem_cons.mpr ⟨mc299_0, List.forall_mem_cons.mpr ⟨mc299_1, List.forall_mem_cons.mpr ⟨mc299_2, List.forall_mem_cons.mpr ⟨mc299_5, List.forall_mem_cons.mpr ⟨mc299_8, List.forall_mem_cons.mpr ⟨mc299_9, List.forall_mem_cons.mpr ⟨mc299_12, List.forall_mem_cons.mpr ⟨mc299_13, List.forall_mem_cons.mpr ⟨mc299_14, List.forall_mem_cons.mpr ⟨mc299_27, List.forall_mem_cons.mpr ⟨mc299_28, List.forall_mem_cons.mpr ⟨mc299_60, List.forall_mem_cons.mpr ⟨mc299_61, List.forall_mem_cons.mpr ⟨mc299_64, List.forall_mem_cons.mpr ⟨mc299_67, List.forall_mem_cons.mpr ⟨mc299_68, List.forall_mem_cons.mpr ⟨mc299_69, List.forall_mem_cons.mpr ⟨mc299_70, List.forall_mem_cons.mpr ⟨mc299_71, List.forall_mem_cons.mpr ⟨mc299_74, List.forall_mem_cons.mpr ⟨mc299_77, List.forall_mem_cons.mpr ⟨mc299_78, List.forall_mem_cons.mpr ⟨mc299_79, List.forall_mem_cons.mpr ⟨mc299_80, List.forall_mem_cons.mpr ⟨mc299_81, List.forall_mem_cons.mpr ⟨mc299_84, List.forall_mem_cons.mpr ⟨mc299_87, List.forall_mem_cons.mpr ⟨mc299_88, List.forall_mem_cons.mpr ⟨mc299_89, List.forall_mem_cons.mpr ⟨mc299_90, List.forall_mem_cons.mpr ⟨mc299_91, List.forall_mem_cons.mpr ⟨mc299_94, List.forall_mem_cons.mpr ⟨mc299_97, List.forall_mem_cons.mpr ⟨mc299_98, List.forall_mem_cons.mpr ⟨mc299_99, List.forall_mem_cons.mpr ⟨mc299_100, List.forall_mem_cons.mpr ⟨mc299_101, List.forall_mem_cons.mpr ⟨mc299_102, List.forall_mem_cons.mpr ⟨mc299_103, List.forall_mem_cons.mpr ⟨mc299_106, List.forall_mem_cons.mpr ⟨mc299_109, List.forall_mem_cons.mpr ⟨mc299_110, List.forall_mem_cons.mpr ⟨mc299_111, fun _ h => absurd h List.not_mem_nil⟩⟩⟩⟩⟩⟩⟩⟩⟩⟩⟩⟩⟩⟩⟩⟩⟩⟩⟩⟩⟩⟩⟩⟩⟩⟩⟩⟩⟩⟩⟩⟩⟩⟩⟩⟩⟩⟩⟩⟩⟩⟩⟩
theorem mc102_0 : okE yIsM prog_1_method_16_code (0, .iload_n 1, 1, 0, 0, 0) := ⟨by decide +kernel, Or.inl rfl, trivial⟩
theorem mc102_1 : okE yIsM prog_1_method_16_code (1, .ifCond .lt 18, 3, 0, 0, 0) := ⟨by decide +kernel, Or.inl rfl, trivial⟩
theorem mc102_4 : okE yIsM prog_1_method_16_code (4, .iload_n 1, 1, 0, 0, 0) := ⟨by decide +kernel, Or.inl rfl, trivial⟩
theorem mc102_5 : okE yIsM prog_1_method_16_code (5, .aload_n 0, 1, 0, 0, 0) := ⟨by decide +kernel, Or.inl rfl, trivial⟩
theorem mc102_6 : okE yIsM prog_1_method_16_code (6, .getfield 35, 3, 10, 3, 2) := ⟨by decide +kernel, Or.inl rfl, Or.inl ⟨_, rfl, mWs_ok 10 rfl, rfl⟩⟩
theorem mc102_9 : okE yIsM prog_1_method_16_code (9, .getfield 152, 3, 9, 3, 0) := ⟨by decide +kernel, Or.inl rfl, Or.inl ⟨_, rfl, mWs_ok 13 rfl, rfl⟩⟩
theorem mc102_12 : okE yIsM prog_1_method_16_code (12, .if_icmp .ge 7, 3, 0, 0, 0) := ⟨by decide +kernel, Or.inl rfl, trivial⟩
theorem mc102_15 : okE yIsM prog_1_method_16_code (15, .iconst 1, 1, 0, 0, 0) := ⟨by decide +kernel, Or.inl rfl, trivial⟩
theorem mc102_16 : okE yIsM prog_1_method_16_code (16, .goto 4, 3, 0, 0, 0) := ⟨by decide +kernel, Or.inl rfl, trivial⟩
theorem mc102_19 : okE yIsM prog_1_method_16_code (19, .iconst 0, 1, 0, 0, 0) := ⟨by decide +kernel, Or.inl rfl, trivial⟩
theorem mc102_20 : okE yIsM prog_1_method_16_code (20, .ireturn, 1, 0, 0, 0) := ⟨by decide +kernel, Or.inl rfl, trivial⟩
theorem mc102_ok : ∀ e ∈ mc102, okE yIsM prog_1_method_16_code e := List.forall_mem_cons.mpr ⟨mc102_0, List.forall_mem_cons.mpr ⟨mc102_1, List.forall_mem_cons.mpr ⟨mc102_4, List.forall_mem_cons.mpr ⟨mc102_5, List.forall_mem_cons.mpr ⟨mc102_6, List.forall_mem_cons.mpr ⟨mc102_9, List.forall_mem_cons.mpr ⟨mc102_12, List.forall_mem_cons.mpr ⟨mc102_15, List.forall_mem_cons.mpr ⟨mc102_16, List.forall_mem_cons.mpr ⟨mc102_19, List.forall_mem_cons.mpr ⟨mc102_20, fun _ h => absurd h List.not_mem_nil⟩⟩⟩⟩⟩⟩⟩⟩⟩⟩⟩
theorem cd2_ok : aOk miM cd2 := by
  intro k pc ins n r1 r2 r3 h
  unfold cd2 at h
  cases hf : (cdL k).find? (fun e => e.1 == pc) with
  | none =>
    rw [hf] at h
    cases h
  | some e =>
    rw [hf] at h
    obtain ⟨e1, e2, e3, e4, e5, e6⟩ := e
    cases h
    have hm := List.mem_of_find?_eq_some hf
    have hp : e1 = pc := eq_of_beq (List.find?_some (p := fun e : Nat × aI => e.1 == pc) hf)
    subst hp
    unfold cdL at hm
    split at hm
    · next hk =>
      subst hk
      obtain ⟨a, b, c⟩ := mc300_ok _ hm
      exact ⟨_, _, _, _, rfl, a, b, c⟩
    · split at hm
      · next hk =>
        subst hk
        obtain ⟨a, b, c⟩ := mc299_ok _ hm
        exact ⟨_, _, _, _, rfl, a, b, c⟩
      · split at hm
        · next hk =>
          subst hk
          obtain ⟨a, b, c⟩ := mc102_ok _ hm
          exact ⟨_, _, _, _, rfl, a, b, c⟩
        · cases hm
theorem miM_ok : aMOk miM := by
  intro k hk y b mL rt h
  unfold miM at h
  rw [if_neg (by omega)] at h
  split at h
  · cases h
    exact ⟨mWs_ok 0 rfl, by decide +kernel, mWs_ok 1 rfl, by decide, by decide, by decide⟩
  · split at h
    · cases h
      exact ⟨mWs_ok 17 rfl, by decide +kernel, mWs_ok 1 rfl, by decide, by decide, by decide⟩
    · cases h
def pmN : aPm := fun _ _ => none
theorem pmN_ok {l : Launch} {E : aE} {O : aOl} : aPmOk l E O pmN := fun _ _ _ _ h => by cases h
