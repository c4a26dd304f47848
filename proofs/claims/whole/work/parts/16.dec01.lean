theorem ck53 : codeB 5 true prog_7_method_1_code 0 ac53 = true := by decide +kernel
theorem cm53 : cOkM 53 ac53 := ⟨_, _, _, _, 5, true, mi53, rfl, fun _ => rfl, ck53⟩
theorem ck54_0 : codeB 5 false prog_7_method_2_code 0 ac54_0 = true := by decide +kernel
theorem ck54_1 : codeB 5 false prog_7_method_2_code 120 ac54_1 = true := by decide +kernel
set_option maxRecDepth 20000 in
theorem ck54 : codeB 5 false prog_7_method_2_code 0 ac54 = true := codeB_app ck54_0 (ck54_1)
theorem cm54 : cOkM 54 ac54 := ⟨_, _, _, _, 5, false, mi54, rfl, (fun q => by cases q), ck54⟩
theorem ck55_0 : codeB 5 false prog_7_method_3_code 0 ac55_0 = true := by decide +kernel
theorem ck55_1 : codeB 5 false prog_7_method_3_code 120 ac55_1 = true := by decide +kernel
set_option maxRecDepth 20000 in
theorem ck55 : codeB 5 false prog_7_method_3_code 0 ac55 = true := codeB_app ck55_0 (ck55_1)
theorem cm55 : cOkM 55 ac55 := ⟨_, _, _, _, 5, false, mi55, rfl, (fun q => by cases q), ck55⟩
theorem ck56_0 : codeB 5 false prog_7_method_4_code 0 ac56_0 = true := by decide +kernel
theorem ck56_1 : codeB 5 false prog_7_method_4_code 120 ac56_1 = true := by decide +kernel
set_option maxRecDepth 20000 in
theorem ck56 : codeB 5 false prog_7_method_4_code 0 ac56 = true := codeB_app ck56_0 (ck56_1)
theorem cm56 : cOkM 56 ac56 := ⟨_, _, _, _, 5, false, mi56, rfl, (fun q => by cases q), ck56⟩
theorem ck57 : codeB 6 true prog_8_method_1_code 0 ac57 = true := by decide +kernel
theorem cm57 : cOkM 57 ac57 := ⟨_, _, _, _, 6, true, mi57, rfl, fun _ => rfl, ck57⟩
theorem ck58 : codeB 6 false prog_8_method_2_code 0 ac58 = true := by decide +kernel
theorem cm58 : cOkM 58 ac58 := ⟨_, _, _, _, 6, false, mi58, rfl, (fun q => by cases q), ck58⟩
theorem ck59 : codeB 6 false prog_8_method_3_code 0 ac59 = true := by decide +kernel
theorem cm59 : cOkM 59 ac59 := ⟨_, _, _, _, 6, false, mi59, rfl, (fun q => by cases q), ck59⟩
theorem ck60 : codeB 6 false prog_8_method_4_code 0 ac60 = true := by decide +kernel
theorem cm60 : cOkM 60 ac60 := ⟨_, _, _, _, 6, false, mi60, rfl, (fun q => by cases q), ck60⟩
theorem ck61 : codeB 6 false prog_8_method_5_code 0 ac61 = true := by decide +kernel
theorem cm61 : cOkM 61 ac61 := ⟨_, _, _, _, 6, false, mi61, rfl, (fun q => by cases q), ck61⟩
theorem ck62 : codeB 6 false prog_8_method_6_code 0 ac62 = true := by decide +kernel
theorem cm62 : cOkM 62 ac62 := ⟨_, _, _, _, 6, false, mi62, rfl, (fun q => by cases q), ck62⟩
theorem ck63 : codeB 6 false prog_8_method_7_code 0 ac63 = true := by decide +kernel
theorem cm63 : cOkM 63 ac63 := ⟨_, _, _, _, 6, false, mi63, rfl, (fun q => by cases q), ck63⟩
theorem ck64 : codeB 6 false prog_8_method_8_code 0 ac64 = true := by decide +kernel
theorem cm64 : cOkM 64 ac64 := ⟨_, _, _, _, 6, false, mi64, rfl, (fun q => by cases q), ck64⟩
theorem ck65 : codeB 6 false prog_8_method_9_code 0 ac65 = true := by decide +kernel
theorem cm65 : cOkM 65 ac65 := ⟨_, _, _, _, 6, false, mi65, rfl, (fun q => by cases q), ck65⟩
theorem ck66 : codeB 6 false prog_8_method_10_code 0 ac66 = true := by decide +kernel
theorem cm66 : cOkM 66 ac66 := ⟨_, _, _, _, 6, false, mi66, rfl, (fun q => by cases q), ck66⟩
theorem ck67 : codeB 7 true prog_9_method_1_code 0 ac67 = true := by decide +kernel
theorem cm67 : cOkM 67 ac67 := ⟨_, _, _, _, 7, true, mi67, rfl, fun _ => rfl, ck67⟩
theorem ck68_0 : codeB 7 false prog_9_method_2_code 0 ac68_0 = true := by decide +kernel
theorem ck68_1 : codeB 7 false prog_9_method_2_code 120 ac68_1 = true := by decide +kernel
set_option maxRecDepth 20000 in
theorem ck68 : codeB 7 false prog_9_method_2_code 0 ac68 = true := codeB_app ck68_0 (ck68_1)
theorem cm68 : cOkM 68 ac68 := ⟨_, _, _, _, 7, false, mi68, rfl, (fun q => by cases q), ck68⟩
theorem ck69 : codeB 7 false prog_9_method_3_code 0 ac69 = true := by decide +kernel
theorem cm69 : cOkM 69 ac69 := ⟨_, _, _, _, 7, false, mi69, rfl, (fun q => by cases q), ck69⟩
theorem ck70 : codeB 8 true prog_10_method_1_code 0 ac70 = true := by decide +kernel
theorem cm70 : cOkM 70 ac70 := ⟨_, _, _, _, 8, true, mi70, rfl, fun _ => rfl, ck70⟩
theorem ck71 : codeB 8 false prog_10_method_2_code 0 ac71 = true := by decide +kernel
theorem cm71 : cOkM 71 ac71 := ⟨_, _, _, _, 8, false, mi71, rfl, (fun q => by cases q), ck71⟩
theorem ck72 : codeB 8 false prog_10_method_3_code 0 ac72 = true := by decide +kernel
theorem cm72 : cOkM 72 ac72 := ⟨_, _, _, _, 8, false, mi72, rfl, (fun q => by cases q), ck72⟩
theorem ck73 : codeB 8 false prog_10_method_4_code 0 ac73 = true := by decide +kernel
theorem cm73 : cOkM 73 ac73 := ⟨_, _, _, _, 8, false, mi73, rfl, (fun q => by cases q), ck73⟩
theorem ck74 : codeB 8 false prog_10_method_5_code 0 ac74 = true := by decide +kernel
theorem cm74 : cOkM 74 ac74 := ⟨_, _, _, _, 8, false, mi74, rfl, (fun q => by cases q), ck74⟩
theorem ck75 : codeB 8 false prog_10_method_6_code 0 ac75 = true := by decide +kernel
theorem cm75 : cOkM 75 ac75 := ⟨_, _, _, _, 8, false, mi75, rfl, (fun q => by cases q), ck75⟩
theorem ck76 : codeB 8 false prog_10_method_7_code 0 ac76 = true := by decide +kernel
theorem cm76 : cOkM 76 ac76 := ⟨_, _, _, _, 8, false, mi76, rfl, (fun q => by cases q), ck76⟩
theorem ck77 : codeB 8 false prog_10_method_8_code 0 ac77 = true := by decide +kernel
theorem cm77 : cOkM 77 ac77 := ⟨_, _, _, _, 8, false, mi77, rfl, (fun q => by cases q), ck77⟩
theorem ck78 : codeB 8 false prog_10_method_9_code 0 ac78 = true := by decide +kernel
theorem cm78 : cOkM 78 ac78 := ⟨_, _, _, _, 8, false, mi78, rfl, (fun q => by cases q), ck78⟩
theorem ck79 : codeB 8 false prog_10_method_10_code 0 ac79 = true := by decide +kernel
theorem cm79 : cOkM 79 ac79 := ⟨_, _, _, _, 8, false, mi79, rfl, (fun q => by cases q), ck79⟩
theorem ck80 : codeB 8 false prog_10_method_11_code 0 ac80 = true := by decide +kernel
theorem cm80 : cOkM 80 ac80 := ⟨_, _, _, _, 8, false, mi80, rfl, (fun q => by cases q), ck80⟩
theorem ck81 : codeB 8 false prog_10_method_12_code 0 ac81 = true := by decide +kernel
theorem cm81 : cOkM 81 ac81 := ⟨_, _, _, _, 8, false, mi81, rfl, (fun q => by cases q), ck81⟩
theorem ck82 : codeB 8 false prog_10_method_13_code 0 ac82 = true := by decide +kernel
theorem cm82 : cOkM 82 ac82 := ⟨_, _, _, _, 8, false, mi82, rfl, (fun q => by cases q), ck82⟩
theorem ck83 : codeB 8 false prog_10_method_14_code 0 ac83 = true := by decide +kernel
theorem cm83 : cOkM 83 ac83 := ⟨_, _, _, _, 8, false, mi83, rfl, (fun q => by cases q), ck83⟩
theorem ck84 : codeB 9 true prog_11_method_1_code 0 ac84 = true := by decide +kernel
theorem cm84 : cOkM 84 ac84 := ⟨_, _, _, _, 9, true, mi84, rfl, fun _ => rfl, ck84⟩
theorem ck85 : codeB 9 false prog_11_method_2_code 0 ac85 = true := by decide +kernel
theorem cm85 : cOkM 85 ac85 := ⟨_, _, _, _, 9, false, mi85, rfl, (fun q => by cases q), ck85⟩
theorem ck86 : codeB 9 false prog_11_method_3_code 0 ac86 = true := by decide +kernel
theorem cm86 : cOkM 86 ac86 := ⟨_, _, _, _, 9, false, mi86, rfl, (fun q => by cases q), ck86⟩
theorem ck87 : codeB 9 false prog_11_method_4_code 0 ac87 = true := by decide +kernel
theorem cm87 : cOkM 87 ac87 := ⟨_, _, _, _, 9, false, mi87, rfl, (fun q => by cases q), ck87⟩
theorem ck88_0 : codeB 10 true prog_1_method_1_code 0 ac88_0 = true := by decide +kernel
theorem ck88_1 : codeB 10 true prog_1_method_1_code 120 ac88_1 = true := by decide +kernel
set_option maxRecDepth 20000 in
theorem ck88 : codeB 10 true prog_1_method_1_code 0 ac88 = true := codeB_app ck88_0 (ck88_1)
theorem cm88 : cOkM 88 ac88 := ⟨_, _, _, _, 10, true, mi88, rfl, fun _ => rfl, ck88⟩
theorem ck89 : codeB 10 false prog_1_method_2_code 0 ac89 = true := by decide +kernel
theorem cm89 : cOkM 89 ac89 := ⟨_, _, _, _, 10, false, mi89, rfl, (fun q => by cases q), ck89⟩
theorem ck90 : codeB 10 false prog_1_method_3_code 0 ac90 = true := by decide +kernel
theorem cm90 : cOkM 90 ac90 := ⟨_, _, _, _, 10, false, mi90, rfl, (fun q => by cases q), ck90⟩
theorem ck91 : codeB 10 false prog_1_method_4_code 0 ac91 = true := by decide +kernel
theorem cm91 : cOkM 91 ac91 := ⟨_, _, _, _, 10, false, mi91, rfl, (fun q => by cases q), ck91⟩
theorem ck92 : codeB 10 false prog_1_method_5_code 0 ac92 = true := by decide +kernel
theorem cm92 : cOkM 92 ac92 := ⟨_, _, _, _, 10, false, mi92, rfl, (fun q => by cases q), ck92⟩
theorem ck93 : codeB 10 false prog_1_method_6_code 0 ac93 = true := by decide +kernel
theorem cm93 : cOkM 93 ac93 := ⟨_, _, _, _, 10, false, mi93, rfl, (fun q => by cases q), ck93⟩
theorem ck94 : codeB 10 false prog_1_method_7_code 0 ac94 = true := by decide +kernel
theorem cm94 : cOkM 94 ac94 := ⟨_, _, _, _, 10, false, mi94, rfl, (fun q => by cases q), ck94⟩
theorem ck95 : codeB 10 false prog_1_method_8_code 0 ac95 = true := by decide +kernel
theorem cm95 : cOkM 95 ac95 := ⟨_, _, _, _, 10, false, mi95, rfl, (fun q => by cases q), ck95⟩
theorem ck96 : codeB 10 false prog_1_method_10_code 0 ac96 = true := by decide +kernel
theorem cm96 : cOkM 96 ac96 := ⟨_, _, _, _, 10, false, mi96, rfl, (fun q => by cases q), ck96⟩
theorem ck97 : codeB 10 false prog_1_method_11_code 0 ac97 = true := by decide +kernel
theorem cm97 : cOkM 97 ac97 := ⟨_, _, _, _, 10, false, mi97, rfl, (fun q => by cases q), ck97⟩
theorem ck98 : codeB 10 false prog_1_method_12_code 0 ac98 = true := by decide +kernel
theorem cm98 : cOkM 98 ac98 := ⟨_, _, _, _, 10, false, mi98, rfl, (fun q => by cases q), ck98⟩
theorem ck99_0 : codeB 10 false prog_1_method_13_code 0 ac99_0 = true := by decide +kernel
theorem ck99_1 : codeB 10 false prog_1_method_13_code 120 ac99_1 = true := by decide +kernel
set_option maxRecDepth 20000 in
theorem ck99 : codeB 10 false prog_1_method_13_code 0 ac99 = true := codeB_app ck99_0 (ck99_1)
theorem cm99 : cOkM 99 ac99 := ⟨_, _, _, _, 10, false, mi99, rfl, (fun q => by cases q), ck99⟩
theorem ck100 : codeB 10 false prog_1_method_14_code 0 ac100 = true := by decide +kernel
theorem cm100 : cOkM 100 ac100 := ⟨_, _, _, _, 10, false, mi100, rfl, (fun q => by cases q), ck100⟩
theorem ck101 : codeB 10 false prog_1_method_15_code 0 ac101 = true := by decide +kernel
theorem cm101 : cOkM 101 ac101 := ⟨_, _, _, _, 10, false, mi101, rfl, (fun q => by cases q), ck101⟩
theorem ck102 : codeB 10 false prog_1_method_16_code 0 ac102 = true := by decide +kernel
theorem cm102 : cOkM 102 ac102 := ⟨_, _, _, _, 10, false, mi102, rfl, (fun q => by cases q), ck102⟩
theorem ck103 : codeB 10 false prog_1_method_17_code 0 ac103 = true := by decide +kernel
theorem cm103 : cOkM 103 ac103 := ⟨_, _, _, _, 10, false, mi103, rfl, (fun q => by cases q), ck103⟩
theorem ck104 : codeB 10 false prog_1_method_18_code 0 ac104 = true := by decide +kernel
theorem cm104 : cOkM 104 ac104 := ⟨_, _, _, _, 10, false, mi104, rfl, (fun q => by cases q), ck104⟩
theorem ck105 : codeB 10 false prog_1_method_19_code 0 ac105 = true := by decide +kernel
theorem cm105 : cOkM 105 ac105 := ⟨_, _, _, _, 10, false, mi105, rfl, (fun q => by cases q), ck105⟩
theorem ck106 : codeB 10 false prog_1_method_20_code 0 ac106 = true := by decide +kernel
theorem cm106 : cOkM 106 ac106 := ⟨_, _, _, _, 10, false, mi106, rfl, (fun q => by cases q), ck106⟩
theorem ck107 : codeB 10 false prog_1_method_21_code 0 ac107 = true := by decide +kernel
theorem cm107 : cOkM 107 ac107 := ⟨_, _, _, _, 10, false, mi107, rfl, (fun q => by cases q), ck107⟩
theorem ck108 : codeB 10 false prog_1_method_22_code 0 ac108 = true := by decide +kernel
theorem cm108 : cOkM 108 ac108 := ⟨_, _, _, _, 10, false, mi108, rfl, (fun q => by cases q), ck108⟩
theorem ck109 : codeB 10 false prog_1_method_23_code 0 ac109 = true := by decide +kernel
theorem cm109 : cOkM 109 ac109 := ⟨_, _, _, _, 10, false, mi109, rfl, (fun q => by cases q), ck109⟩
