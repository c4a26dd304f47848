theorem ck0 : codeB 0 true prog_2_method_1_code 0 ac0 = true := by decide +kernel
theorem cm0 : cOkM 0 ac0 := ⟨_, _, _, _, 0, true, mi0, rfl, fun _ => rfl, ck0⟩
theorem ck1 : codeB 0 false prog_2_method_2_code 0 ac1 = true := by decide +kernel
theorem cm1 : cOkM 1 ac1 := ⟨_, _, _, _, 0, false, mi1, rfl, (fun q => by cases q), ck1⟩
theorem ck2 : codeB 0 false prog_2_method_3_code 0 ac2 = true := by decide +kernel
theorem cm2 : cOkM 2 ac2 := ⟨_, _, _, _, 0, false, mi2, rfl, (fun q => by cases q), ck2⟩
theorem ck3 : codeB 0 false prog_2_method_4_code 0 ac3 = true := by decide +kernel
theorem cm3 : cOkM 3 ac3 := ⟨_, _, _, _, 0, false, mi3, rfl, (fun q => by cases q), ck3⟩
theorem ck4 : codeB 0 false prog_2_method_5_code 0 ac4 = true := by decide +kernel
theorem cm4 : cOkM 4 ac4 := ⟨_, _, _, _, 0, false, mi4, rfl, (fun q => by cases q), ck4⟩
theorem ck5 : codeB 1 true prog_3_method_1_code 0 ac5 = true := by decide +kernel
theorem cm5 : cOkM 5 ac5 := ⟨_, _, _, _, 1, true, mi5, rfl, fun _ => rfl, ck5⟩
theorem ck6_0 : codeB 1 false prog_3_method_2_code 0 ac6_0 = true := by decide +kernel
theorem ck6_1 : codeB 1 false prog_3_method_2_code 120 ac6_1 = true := by decide +kernel
set_option maxRecDepth 20000 in
theorem ck6 : codeB 1 false prog_3_method_2_code 0 ac6 = true := codeB_app ck6_0 (ck6_1)
theorem cm6 : cOkM 6 ac6 := ⟨_, _, _, _, 1, false, mi6, rfl, (fun q => by cases q), ck6⟩
theorem ck7 : codeB 1 false prog_3_method_3_code 0 ac7 = true := by decide +kernel
theorem cm7 : cOkM 7 ac7 := ⟨_, _, _, _, 1, false, mi7, rfl, (fun q => by cases q), ck7⟩
theorem ck8 : codeB 1 false prog_3_method_4_code 0 ac8 = true := by decide +kernel
theorem cm8 : cOkM 8 ac8 := ⟨_, _, _, _, 1, false, mi8, rfl, (fun q => by cases q), ck8⟩
theorem ck9 : codeB 1 false prog_3_method_5_code 0 ac9 = true := by decide +kernel
theorem cm9 : cOkM 9 ac9 := ⟨_, _, _, _, 1, false, mi9, rfl, (fun q => by cases q), ck9⟩
theorem ck10 : codeB 1 false prog_3_method_6_code 0 ac10 = true := by decide +kernel
theorem cm10 : cOkM 10 ac10 := ⟨_, _, _, _, 1, false, mi10, rfl, (fun q => by cases q), ck10⟩
theorem ck11 : codeB 1 false prog_3_method_7_code 0 ac11 = true := by decide +kernel
theorem cm11 : cOkM 11 ac11 := ⟨_, _, _, _, 1, false, mi11, rfl, (fun q => by cases q), ck11⟩
theorem ck12 : codeB 1 false prog_3_method_8_code 0 ac12 = true := by decide +kernel
theorem cm12 : cOkM 12 ac12 := ⟨_, _, _, _, 1, false, mi12, rfl, (fun q => by cases q), ck12⟩
theorem ck13 : codeB 1 false prog_3_method_9_code 0 ac13 = true := by decide +kernel
theorem cm13 : cOkM 13 ac13 := ⟨_, _, _, _, 1, false, mi13, rfl, (fun q => by cases q), ck13⟩
theorem ck14 : codeB 1 false prog_3_method_10_code 0 ac14 = true := by decide +kernel
theorem cm14 : cOkM 14 ac14 := ⟨_, _, _, _, 1, false, mi14, rfl, (fun q => by cases q), ck14⟩
theorem ck15 : codeB 1 false prog_3_method_11_code 0 ac15 = true := by decide +kernel
theorem cm15 : cOkM 15 ac15 := ⟨_, _, _, _, 1, false, mi15, rfl, (fun q => by cases q), ck15⟩
theorem ck16_0 : codeB 1 false prog_3_method_12_code 0 ac16_0 = true := by decide +kernel
theorem ck16_1 : codeB 1 false prog_3_method_12_code 120 ac16_1 = true := by decide +kernel
set_option maxRecDepth 20000 in
theorem ck16 : codeB 1 false prog_3_method_12_code 0 ac16 = true := codeB_app ck16_0 (ck16_1)
theorem cm16 : cOkM 16 ac16 := ⟨_, _, _, _, 1, false, mi16, rfl, (fun q => by cases q), ck16⟩
theorem ck17 : codeB 1 false prog_3_method_13_code 0 ac17 = true := by decide +kernel
theorem cm17 : cOkM 17 ac17 := ⟨_, _, _, _, 1, false, mi17, rfl, (fun q => by cases q), ck17⟩
theorem ck18 : codeB 1 false prog_3_method_14_code 0 ac18 = true := by decide +kernel
theorem cm18 : cOkM 18 ac18 := ⟨_, _, _, _, 1, false, mi18, rfl, (fun q => by cases q), ck18⟩
theorem ck19 : codeB 1 false prog_3_method_15_code 0 ac19 = true := by decide +kernel
theorem cm19 : cOkM 19 ac19 := ⟨_, _, _, _, 1, false, mi19, rfl, (fun q => by cases q), ck19⟩
theorem ck20 : codeB 1 false prog_3_method_16_code 0 ac20 = true := by decide +kernel
theorem cm20 : cOkM 20 ac20 := ⟨_, _, _, _, 1, false, mi20, rfl, (fun q => by cases q), ck20⟩
theorem ck21 : codeB 1 false prog_3_method_17_code 0 ac21 = true := by decide +kernel
theorem cm21 : cOkM 21 ac21 := ⟨_, _, _, _, 1, false, mi21, rfl, (fun q => by cases q), ck21⟩
theorem ck22_0 : codeB 1 false prog_3_method_18_code 0 ac22_0 = true := by decide +kernel
theorem ck22_1 : codeB 1 false prog_3_method_18_code 120 ac22_1 = true := by decide +kernel
set_option maxRecDepth 20000 in
theorem ck22 : codeB 1 false prog_3_method_18_code 0 ac22 = true := codeB_app ck22_0 (ck22_1)
theorem cm22 : cOkM 22 ac22 := ⟨_, _, _, _, 1, false, mi22, rfl, (fun q => by cases q), ck22⟩
theorem ck23 : codeB 2 true prog_4_method_1_code 0 ac23 = true := by decide +kernel
theorem cm23 : cOkM 23 ac23 := ⟨_, _, _, _, 2, true, mi23, rfl, fun _ => rfl, ck23⟩
theorem ck24 : codeB 2 false prog_4_method_2_code 0 ac24 = true := by decide +kernel
theorem cm24 : cOkM 24 ac24 := ⟨_, _, _, _, 2, false, mi24, rfl, (fun q => by cases q), ck24⟩
theorem ck25 : codeB 2 false prog_4_method_3_code 0 ac25 = true := by decide +kernel
theorem cm25 : cOkM 25 ac25 := ⟨_, _, _, _, 2, false, mi25, rfl, (fun q => by cases q), ck25⟩
theorem ck26 : codeB 2 false prog_4_method_4_code 0 ac26 = true := by decide +kernel
theorem cm26 : cOkM 26 ac26 := ⟨_, _, _, _, 2, false, mi26, rfl, (fun q => by cases q), ck26⟩
theorem ck27 : codeB 2 false prog_4_method_5_code 0 ac27 = true := by decide +kernel
theorem cm27 : cOkM 27 ac27 := ⟨_, _, _, _, 2, false, mi27, rfl, (fun q => by cases q), ck27⟩
theorem ck28 : codeB 3 true prog_5_method_1_code 0 ac28 = true := by decide +kernel
theorem cm28 : cOkM 28 ac28 := ⟨_, _, _, _, 3, true, mi28, rfl, fun _ => rfl, ck28⟩
theorem ck29 : codeB 3 false prog_5_method_2_code 0 ac29 = true := by decide +kernel
theorem cm29 : cOkM 29 ac29 := ⟨_, _, _, _, 3, false, mi29, rfl, (fun q => by cases q), ck29⟩
theorem ck30 : codeB 3 false prog_5_method_3_code 0 ac30 = true := by decide +kernel
theorem cm30 : cOkM 30 ac30 := ⟨_, _, _, _, 3, false, mi30, rfl, (fun q => by cases q), ck30⟩
theorem ck31 : codeB 3 false prog_5_method_4_code 0 ac31 = true := by decide +kernel
theorem cm31 : cOkM 31 ac31 := ⟨_, _, _, _, 3, false, mi31, rfl, (fun q => by cases q), ck31⟩
theorem ck32 : codeB 3 false prog_5_method_5_code 0 ac32 = true := by decide +kernel
theorem cm32 : cOkM 32 ac32 := ⟨_, _, _, _, 3, false, mi32, rfl, (fun q => by cases q), ck32⟩
theorem ck33 : codeB 3 false prog_5_method_6_code 0 ac33 = true := by decide +kernel
theorem cm33 : cOkM 33 ac33 := ⟨_, _, _, _, 3, false, mi33, rfl, (fun q => by cases q), ck33⟩
theorem ck34 : codeB 3 false prog_5_method_7_code 0 ac34 = true := by decide +kernel
theorem cm34 : cOkM 34 ac34 := ⟨_, _, _, _, 3, false, mi34, rfl, (fun q => by cases q), ck34⟩
theorem ck35_0 : codeB 3 false prog_5_method_8_code 0 ac35_0 = true := by decide +kernel
theorem ck35_1 : codeB 3 false prog_5_method_8_code 120 ac35_1 = true := by decide +kernel
set_option maxRecDepth 20000 in
theorem ck35 : codeB 3 false prog_5_method_8_code 0 ac35 = true := codeB_app ck35_0 (ck35_1)
theorem cm35 : cOkM 35 ac35 := ⟨_, _, _, _, 3, false, mi35, rfl, (fun q => by cases q), ck35⟩
theorem ck36_0 : codeB 3 false prog_5_method_9_code 0 ac36_0 = true := by decide +kernel
theorem ck36_1 : codeB 3 false prog_5_method_9_code 120 ac36_1 = true := by decide +kernel
set_option maxRecDepth 20000 in
theorem ck36 : codeB 3 false prog_5_method_9_code 0 ac36 = true := codeB_app ck36_0 (ck36_1)
theorem cm36 : cOkM 36 ac36 := ⟨_, _, _, _, 3, false, mi36, rfl, (fun q => by cases q), ck36⟩
theorem ck37 : codeB 3 false prog_5_method_10_code 0 ac37 = true := by decide +kernel
theorem cm37 : cOkM 37 ac37 := ⟨_, _, _, _, 3, false, mi37, rfl, (fun q => by cases q), ck37⟩
theorem ck38_0 : codeB 3 false prog_5_method_11_code 0 ac38_0 = true := by decide +kernel
theorem ck38_1 : codeB 3 false prog_5_method_11_code 120 ac38_1 = true := by decide +kernel
set_option maxRecDepth 20000 in
theorem ck38 : codeB 3 false prog_5_method_11_code 0 ac38 = true := codeB_app ck38_0 (ck38_1)
theorem cm38 : cOkM 38 ac38 := ⟨_, _, _, _, 3, false, mi38, rfl, (fun q => by cases q), ck38⟩
theorem ck39 : codeB 4 true prog_6_method_1_code 0 ac39 = true := by decide +kernel
theorem cm39 : cOkM 39 ac39 := ⟨_, _, _, _, 4, true, mi39, rfl, fun _ => rfl, ck39⟩
theorem ck40 : codeB 4 false prog_6_method_2_code 0 ac40 = true := by decide +kernel
theorem cm40 : cOkM 40 ac40 := ⟨_, _, _, _, 4, false, mi40, rfl, (fun q => by cases q), ck40⟩
theorem ck41_0 : codeB 4 false prog_6_method_3_code 0 ac41_0 = true := by decide +kernel
theorem ck41_1 : codeB 4 false prog_6_method_3_code 120 ac41_1 = true := by decide +kernel
set_option maxRecDepth 20000 in
theorem ck41 : codeB 4 false prog_6_method_3_code 0 ac41 = true := codeB_app ck41_0 (ck41_1)
theorem cm41 : cOkM 41 ac41 := ⟨_, _, _, _, 4, false, mi41, rfl, (fun q => by cases q), ck41⟩
theorem ck42 : codeB 4 false prog_6_method_4_code 0 ac42 = true := by decide +kernel
theorem cm42 : cOkM 42 ac42 := ⟨_, _, _, _, 4, false, mi42, rfl, (fun q => by cases q), ck42⟩
theorem ck43 : codeB 4 false prog_6_method_5_code 0 ac43 = true := by decide +kernel
theorem cm43 : cOkM 43 ac43 := ⟨_, _, _, _, 4, false, mi43, rfl, (fun q => by cases q), ck43⟩
theorem ck44 : codeB 4 false prog_6_method_6_code 0 ac44 = true := by decide +kernel
theorem cm44 : cOkM 44 ac44 := ⟨_, _, _, _, 4, false, mi44, rfl, (fun q => by cases q), ck44⟩
theorem ck45 : codeB 4 false prog_6_method_7_code 0 ac45 = true := by decide +kernel
theorem cm45 : cOkM 45 ac45 := ⟨_, _, _, _, 4, false, mi45, rfl, (fun q => by cases q), ck45⟩
theorem ck46 : codeB 4 false prog_6_method_8_code 0 ac46 = true := by decide +kernel
theorem cm46 : cOkM 46 ac46 := ⟨_, _, _, _, 4, false, mi46, rfl, (fun q => by cases q), ck46⟩
theorem ck47 : codeB 4 false prog_6_method_9_code 0 ac47 = true := by decide +kernel
theorem cm47 : cOkM 47 ac47 := ⟨_, _, _, _, 4, false, mi47, rfl, (fun q => by cases q), ck47⟩
theorem ck48 : codeB 4 false prog_6_method_10_code 0 ac48 = true := by decide +kernel
theorem cm48 : cOkM 48 ac48 := ⟨_, _, _, _, 4, false, mi48, rfl, (fun q => by cases q), ck48⟩
theorem ck49 : codeB 4 false prog_6_method_11_code 0 ac49 = true := by decide +kernel
theorem cm49 : cOkM 49 ac49 := ⟨_, _, _, _, 4, false, mi49, rfl, (fun q => by cases q), ck49⟩
theorem ck50 : codeB 4 false prog_6_method_12_code 0 ac50 = true := by decide +kernel
theorem cm50 : cOkM 50 ac50 := ⟨_, _, _, _, 4, false, mi50, rfl, (fun q => by cases q), ck50⟩
theorem ck51 : codeB 4 false prog_6_method_13_code 0 ac51 = true := by decide +kernel
theorem cm51 : cOkM 51 ac51 := ⟨_, _, _, _, 4, false, mi51, rfl, (fun q => by cases q), ck51⟩
theorem ck52_0 : codeB 4 false prog_6_method_14_code 0 ac52_0 = true := by decide +kernel
theorem ck52_1 : codeB 4 false prog_6_method_14_code 120 ac52_1 = true := by decide +kernel
set_option maxRecDepth 20000 in
theorem ck52 : codeB 4 false prog_6_method_14_code 0 ac52 = true := codeB_app ck52_0 (ck52_1)
theorem cm52 : cOkM 52 ac52 := ⟨_, _, _, _, 4, false, mi52, rfl, (fun q => by cases q), ck52⟩
