theorem ck159 : codeB 10 false prog_1_method_73_code 0 ac159 = true := by decide +kernel
theorem cm159 : cOkM 159 ac159 := ⟨_, _, _, _, 10, false, mi159, rfl, (fun q => by cases q), ck159⟩
theorem ck160 : codeB 10 false prog_1_method_74_code 0 ac160 = true := by decide +kernel
theorem cm160 : cOkM 160 ac160 := ⟨_, _, _, _, 10, false, mi160, rfl, (fun q => by cases q), ck160⟩
theorem ck161 : codeB 11 false prog_13_method_1_code 0 ac161 = true := by decide +kernel
theorem cm161 : cOkM 161 ac161 := ⟨_, _, _, _, 11, false, mi161, rfl, (fun q => by cases q), ck161⟩
theorem ck162 : codeB 11 false prog_13_method_2_code 0 ac162 = true := by decide +kernel
theorem cm162 : cOkM 162 ac162 := ⟨_, _, _, _, 11, false, mi162, rfl, (fun q => by cases q), ck162⟩
theorem ck163_0 : codeB 11 true prog_13_method_3_code 0 ac163_0 = true := by decide +kernel
theorem ck163_1 : codeB 11 true prog_13_method_3_code 120 ac163_1 = true := by decide +kernel
theorem ck163_2 : codeB 11 true prog_13_method_3_code 240 ac163_2 = true := by decide +kernel
set_option maxRecDepth 20000 in
theorem ck163 : codeB 11 true prog_13_method_3_code 0 ac163 = true := codeB_app ck163_0 (codeB_app ck163_1 (ck163_2))
theorem cm163 : cOkM 163 ac163 := ⟨_, _, _, _, 11, true, mi163, rfl, fun _ => rfl, ck163⟩
theorem ck164 : codeB 11 false prog_13_method_4_code 0 ac164 = true := by decide +kernel
theorem cm164 : cOkM 164 ac164 := ⟨_, _, _, _, 11, false, mi164, rfl, (fun q => by cases q), ck164⟩
theorem ck165 : codeB 11 false prog_13_method_5_code 0 ac165 = true := by decide +kernel
theorem cm165 : cOkM 165 ac165 := ⟨_, _, _, _, 11, false, mi165, rfl, (fun q => by cases q), ck165⟩
theorem ck166 : codeB 11 false prog_13_method_6_code 0 ac166 = true := by decide +kernel
theorem cm166 : cOkM 166 ac166 := ⟨_, _, _, _, 11, false, mi166, rfl, (fun q => by cases q), ck166⟩
theorem ck167 : codeB 11 false prog_13_method_7_code 0 ac167 = true := by decide +kernel
theorem cm167 : cOkM 167 ac167 := ⟨_, _, _, _, 11, false, mi167, rfl, (fun q => by cases q), ck167⟩
theorem ck168 : codeB 11 false prog_13_method_8_code 0 ac168 = true := by decide +kernel
theorem cm168 : cOkM 168 ac168 := ⟨_, _, _, _, 11, false, mi168, rfl, (fun q => by cases q), ck168⟩
theorem ck169 : codeB 11 false prog_13_method_9_code 0 ac169 = true := by decide +kernel
theorem cm169 : cOkM 169 ac169 := ⟨_, _, _, _, 11, false, mi169, rfl, (fun q => by cases q), ck169⟩
theorem ck170 : codeB 11 false prog_13_method_10_code 0 ac170 = true := by decide +kernel
theorem cm170 : cOkM 170 ac170 := ⟨_, _, _, _, 11, false, mi170, rfl, (fun q => by cases q), ck170⟩
theorem ck171 : codeB 11 false prog_13_method_11_code 0 ac171 = true := by decide +kernel
theorem cm171 : cOkM 171 ac171 := ⟨_, _, _, _, 11, false, mi171, rfl, (fun q => by cases q), ck171⟩
theorem ck172 : codeB 11 false prog_13_method_12_code 0 ac172 = true := by decide +kernel
theorem cm172 : cOkM 172 ac172 := ⟨_, _, _, _, 11, false, mi172, rfl, (fun q => by cases q), ck172⟩
theorem ck173 : codeB 11 false prog_13_method_13_code 0 ac173 = true := by decide +kernel
theorem cm173 : cOkM 173 ac173 := ⟨_, _, _, _, 11, false, mi173, rfl, (fun q => by cases q), ck173⟩
theorem ck174 : codeB 11 false prog_13_method_14_code 0 ac174 = true := by decide +kernel
theorem cm174 : cOkM 174 ac174 := ⟨_, _, _, _, 11, false, mi174, rfl, (fun q => by cases q), ck174⟩
theorem ck175 : codeB 11 false prog_13_method_15_code 0 ac175 = true := by decide +kernel
theorem cm175 : cOkM 175 ac175 := ⟨_, _, _, _, 11, false, mi175, rfl, (fun q => by cases q), ck175⟩
theorem ck176 : codeB 11 false prog_13_method_16_code 0 ac176 = true := by decide +kernel
theorem cm176 : cOkM 176 ac176 := ⟨_, _, _, _, 11, false, mi176, rfl, (fun q => by cases q), ck176⟩
theorem ck177 : codeB 11 false prog_13_method_17_code 0 ac177 = true := by decide +kernel
theorem cm177 : cOkM 177 ac177 := ⟨_, _, _, _, 11, false, mi177, rfl, (fun q => by cases q), ck177⟩
theorem ck178 : codeB 11 false prog_13_method_18_code 0 ac178 = true := by decide +kernel
theorem cm178 : cOkM 178 ac178 := ⟨_, _, _, _, 11, false, mi178, rfl, (fun q => by cases q), ck178⟩
theorem ck179 : codeB 11 false prog_13_method_19_code 0 ac179 = true := by decide +kernel
theorem cm179 : cOkM 179 ac179 := ⟨_, _, _, _, 11, false, mi179, rfl, (fun q => by cases q), ck179⟩
theorem ck180 : codeB 11 false prog_13_method_20_code 0 ac180 = true := by decide +kernel
theorem cm180 : cOkM 180 ac180 := ⟨_, _, _, _, 11, false, mi180, rfl, (fun q => by cases q), ck180⟩
theorem ck181 : codeB 11 false prog_13_method_21_code 0 ac181 = true := by decide +kernel
theorem cm181 : cOkM 181 ac181 := ⟨_, _, _, _, 11, false, mi181, rfl, (fun q => by cases q), ck181⟩
theorem ck182 : codeB 11 false prog_13_method_22_code 0 ac182 = true := by decide +kernel
theorem cm182 : cOkM 182 ac182 := ⟨_, _, _, _, 11, false, mi182, rfl, (fun q => by cases q), ck182⟩
theorem ck183 : codeB 11 false prog_13_method_23_code 0 ac183 = true := by decide +kernel
theorem cm183 : cOkM 183 ac183 := ⟨_, _, _, _, 11, false, mi183, rfl, (fun q => by cases q), ck183⟩
theorem ck184 : codeB 11 false prog_13_method_24_code 0 ac184 = true := by decide +kernel
theorem cm184 : cOkM 184 ac184 := ⟨_, _, _, _, 11, false, mi184, rfl, (fun q => by cases q), ck184⟩
theorem ck185 : codeB 11 false prog_13_method_25_code 0 ac185 = true := by decide +kernel
theorem cm185 : cOkM 185 ac185 := ⟨_, _, _, _, 11, false, mi185, rfl, (fun q => by cases q), ck185⟩
theorem ck186_0 : codeB 11 false prog_13_method_26_code 0 ac186_0 = true := by decide +kernel
theorem ck186_1 : codeB 11 false prog_13_method_26_code 120 ac186_1 = true := by decide +kernel
theorem ck186_2 : codeB 11 false prog_13_method_26_code 240 ac186_2 = true := by decide +kernel
set_option maxRecDepth 20000 in
theorem ck186 : codeB 11 false prog_13_method_26_code 0 ac186 = true := codeB_app ck186_0 (codeB_app ck186_1 (ck186_2))
theorem cm186 : cOkM 186 ac186 := ⟨_, _, _, _, 11, false, mi186, rfl, (fun q => by cases q), ck186⟩
theorem ck187 : codeB 11 false prog_13_method_27_code 0 ac187 = true := by decide +kernel
theorem cm187 : cOkM 187 ac187 := ⟨_, _, _, _, 11, false, mi187, rfl, (fun q => by cases q), ck187⟩
theorem ck188 : codeB 11 false prog_13_method_28_code 0 ac188 = true := by decide +kernel
theorem cm188 : cOkM 188 ac188 := ⟨_, _, _, _, 11, false, mi188, rfl, (fun q => by cases q), ck188⟩
theorem ck189 : codeB 11 false prog_13_method_29_code 0 ac189 = true := by decide +kernel
theorem cm189 : cOkM 189 ac189 := ⟨_, _, _, _, 11, false, mi189, rfl, (fun q => by cases q), ck189⟩
theorem ck190 : codeB 11 false prog_13_method_30_code 0 ac190 = true := by decide +kernel
theorem cm190 : cOkM 190 ac190 := ⟨_, _, _, _, 11, false, mi190, rfl, (fun q => by cases q), ck190⟩
theorem ck191_0 : codeB 11 false prog_13_method_31_code 0 ac191_0 = true := by decide +kernel
theorem ck191_1 : codeB 11 false prog_13_method_31_code 120 ac191_1 = true := by decide +kernel
set_option maxRecDepth 20000 in
theorem ck191 : codeB 11 false prog_13_method_31_code 0 ac191 = true := codeB_app ck191_0 (ck191_1)
theorem cm191 : cOkM 191 ac191 := ⟨_, _, _, _, 11, false, mi191, rfl, (fun q => by cases q), ck191⟩
theorem ck192_0 : codeB 11 false prog_13_method_32_code 0 ac192_0 = true := by decide +kernel
theorem ck192_1 : codeB 11 false prog_13_method_32_code 120 ac192_1 = true := by decide +kernel
set_option maxRecDepth 20000 in
theorem ck192 : codeB 11 false prog_13_method_32_code 0 ac192 = true := codeB_app ck192_0 (ck192_1)
theorem cm192 : cOkM 192 ac192 := ⟨_, _, _, _, 11, false, mi192, rfl, (fun q => by cases q), ck192⟩
theorem ck193 : codeB 11 false prog_13_method_33_code 0 ac193 = true := by decide +kernel
theorem cm193 : cOkM 193 ac193 := ⟨_, _, _, _, 11, false, mi193, rfl, (fun q => by cases q), ck193⟩
theorem ck194 : codeB 11 false prog_13_method_34_code 0 ac194 = true := by decide +kernel
theorem cm194 : cOkM 194 ac194 := ⟨_, _, _, _, 11, false, mi194, rfl, (fun q => by cases q), ck194⟩
theorem ck195_0 : codeB 11 false prog_13_method_35_code 0 ac195_0 = true := by decide +kernel
theorem ck195_1 : codeB 11 false prog_13_method_35_code 120 ac195_1 = true := by decide +kernel
set_option maxRecDepth 20000 in
theorem ck195 : codeB 11 false prog_13_method_35_code 0 ac195 = true := codeB_app ck195_0 (ck195_1)
theorem cm195 : cOkM 195 ac195 := ⟨_, _, _, _, 11, false, mi195, rfl, (fun q => by cases q), ck195⟩
theorem ck196 : codeB 11 false prog_13_method_36_code 0 ac196 = true := by decide +kernel
theorem cm196 : cOkM 196 ac196 := ⟨_, _, _, _, 11, false, mi196, rfl, (fun q => by cases q), ck196⟩
theorem ck197 : codeB 11 false prog_13_method_37_code 0 ac197 = true := by decide +kernel
theorem cm197 : cOkM 197 ac197 := ⟨_, _, _, _, 11, false, mi197, rfl, (fun q => by cases q), ck197⟩
theorem ck198 : codeB 11 false prog_13_method_38_code 0 ac198 = true := by decide +kernel
theorem cm198 : cOkM 198 ac198 := ⟨_, _, _, _, 11, false, mi198, rfl, (fun q => by cases q), ck198⟩
theorem ck199_0 : codeB 11 false prog_13_method_39_code 0 ac199_0 = true := by decide +kernel
theorem ck199_1 : codeB 11 false prog_13_method_39_code 120 ac199_1 = true := by decide +kernel
set_option maxRecDepth 20000 in
theorem ck199 : codeB 11 false prog_13_method_39_code 0 ac199 = true := codeB_app ck199_0 (ck199_1)
theorem cm199 : cOkM 199 ac199 := ⟨_, _, _, _, 11, false, mi199, rfl, (fun q => by cases q), ck199⟩
theorem ck200_0 : codeB 11 false prog_13_method_40_code 0 ac200_0 = true := by decide +kernel
theorem ck200_1 : codeB 11 false prog_13_method_40_code 120 ac200_1 = true := by decide +kernel
set_option maxRecDepth 20000 in
theorem ck200 : codeB 11 false prog_13_method_40_code 0 ac200 = true := codeB_app ck200_0 (ck200_1)
theorem cm200 : cOkM 200 ac200 := ⟨_, _, _, _, 11, false, mi200, rfl, (fun q => by cases q), ck200⟩
