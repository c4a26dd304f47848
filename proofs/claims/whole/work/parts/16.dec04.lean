theorem ck201_0 : codeB 11 false prog_13_method_41_code 0 ac201_0 = true := by decide +kernel
theorem ck201_1 : codeB 11 false prog_13_method_41_code 120 ac201_1 = true := by decide +kernel
theorem ck201_2 : codeB 11 false prog_13_method_41_code 240 ac201_2 = true := by decide +kernel
set_option maxRecDepth 20000 in
theorem ck201 : codeB 11 false prog_13_method_41_code 0 ac201 = true := codeB_app ck201_0 (codeB_app ck201_1 (ck201_2))
theorem cm201 : cOkM 201 ac201 := ⟨_, _, _, _, 11, false, mi201, rfl, (fun q => by cases q), ck201⟩
theorem ck202 : codeB 11 false prog_13_method_42_code 0 ac202 = true := by decide +kernel
theorem cm202 : cOkM 202 ac202 := ⟨_, _, _, _, 11, false, mi202, rfl, (fun q => by cases q), ck202⟩
theorem ck203_0 : codeB 11 false prog_13_method_43_code 0 ac203_0 = true := by decide +kernel
theorem ck203_1 : codeB 11 false prog_13_method_43_code 120 ac203_1 = true := by decide +kernel
set_option maxRecDepth 20000 in
theorem ck203 : codeB 11 false prog_13_method_43_code 0 ac203 = true := codeB_app ck203_0 (ck203_1)
theorem cm203 : cOkM 203 ac203 := ⟨_, _, _, _, 11, false, mi203, rfl, (fun q => by cases q), ck203⟩
theorem ck204_0 : codeB 11 false prog_13_method_44_code 0 ac204_0 = true := by decide +kernel
theorem ck204_1 : codeB 11 false prog_13_method_44_code 120 ac204_1 = true := by decide +kernel
set_option maxRecDepth 20000 in
theorem ck204 : codeB 11 false prog_13_method_44_code 0 ac204 = true := codeB_app ck204_0 (ck204_1)
theorem cm204 : cOkM 204 ac204 := ⟨_, _, _, _, 11, false, mi204, rfl, (fun q => by cases q), ck204⟩
theorem ck205 : codeB 11 false prog_13_method_45_code 0 ac205 = true := by decide +kernel
theorem cm205 : cOkM 205 ac205 := ⟨_, _, _, _, 11, false, mi205, rfl, (fun q => by cases q), ck205⟩
theorem ck206 : codeB 11 false prog_13_method_46_code 0 ac206 = true := by decide +kernel
theorem cm206 : cOkM 206 ac206 := ⟨_, _, _, _, 11, false, mi206, rfl, (fun q => by cases q), ck206⟩
theorem ck207 : codeB 11 false prog_13_method_47_code 0 ac207 = true := by decide +kernel
theorem cm207 : cOkM 207 ac207 := ⟨_, _, _, _, 11, false, mi207, rfl, (fun q => by cases q), ck207⟩
theorem ck208 : codeB 11 false prog_13_method_48_code 0 ac208 = true := by decide +kernel
theorem cm208 : cOkM 208 ac208 := ⟨_, _, _, _, 11, false, mi208, rfl, (fun q => by cases q), ck208⟩
theorem ck209 : codeB 11 false prog_13_method_49_code 0 ac209 = true := by decide +kernel
theorem cm209 : cOkM 209 ac209 := ⟨_, _, _, _, 11, false, mi209, rfl, (fun q => by cases q), ck209⟩
theorem ck210 : codeB 11 false prog_13_method_50_code 0 ac210 = true := by decide +kernel
theorem cm210 : cOkM 210 ac210 := ⟨_, _, _, _, 11, false, mi210, rfl, (fun q => by cases q), ck210⟩
theorem ck211_0 : codeB 11 false prog_13_method_51_code 0 ac211_0 = true := by decide +kernel
theorem ck211_1 : codeB 11 false prog_13_method_51_code 120 ac211_1 = true := by decide +kernel
set_option maxRecDepth 20000 in
theorem ck211 : codeB 11 false prog_13_method_51_code 0 ac211 = true := codeB_app ck211_0 (ck211_1)
theorem cm211 : cOkM 211 ac211 := ⟨_, _, _, _, 11, false, mi211, rfl, (fun q => by cases q), ck211⟩
theorem ck212 : codeB 11 false prog_13_method_52_code 0 ac212 = true := by decide +kernel
theorem cm212 : cOkM 212 ac212 := ⟨_, _, _, _, 11, false, mi212, rfl, (fun q => by cases q), ck212⟩
theorem ck213_0 : codeB 11 false prog_13_method_53_code 0 ac213_0 = true := by decide +kernel
theorem ck213_1 : codeB 11 false prog_13_method_53_code 120 ac213_1 = true := by decide +kernel
set_option maxRecDepth 20000 in
theorem ck213 : codeB 11 false prog_13_method_53_code 0 ac213 = true := codeB_app ck213_0 (ck213_1)
theorem cm213 : cOkM 213 ac213 := ⟨_, _, _, _, 11, false, mi213, rfl, (fun q => by cases q), ck213⟩
theorem ck214 : codeB 11 false prog_13_method_54_code 0 ac214 = true := by decide +kernel
theorem cm214 : cOkM 214 ac214 := ⟨_, _, _, _, 11, false, mi214, rfl, (fun q => by cases q), ck214⟩
theorem ck215 : codeB 11 false prog_13_method_55_code 0 ac215 = true := by decide +kernel
theorem cm215 : cOkM 215 ac215 := ⟨_, _, _, _, 11, false, mi215, rfl, (fun q => by cases q), ck215⟩
theorem ck216 : codeB 11 false prog_13_method_56_code 0 ac216 = true := by decide +kernel
theorem cm216 : cOkM 216 ac216 := ⟨_, _, _, _, 11, false, mi216, rfl, (fun q => by cases q), ck216⟩
theorem ck217 : codeB 11 false prog_13_method_57_code 0 ac217 = true := by decide +kernel
theorem cm217 : cOkM 217 ac217 := ⟨_, _, _, _, 11, false, mi217, rfl, (fun q => by cases q), ck217⟩
theorem ck218 : codeB 11 false prog_13_method_58_code 0 ac218 = true := by decide +kernel
theorem cm218 : cOkM 218 ac218 := ⟨_, _, _, _, 11, false, mi218, rfl, (fun q => by cases q), ck218⟩
theorem ck219 : codeB 11 false prog_13_method_59_code 0 ac219 = true := by decide +kernel
theorem cm219 : cOkM 219 ac219 := ⟨_, _, _, _, 11, false, mi219, rfl, (fun q => by cases q), ck219⟩
theorem ck220 : codeB 11 false prog_13_method_60_code 0 ac220 = true := by decide +kernel
theorem cm220 : cOkM 220 ac220 := ⟨_, _, _, _, 11, false, mi220, rfl, (fun q => by cases q), ck220⟩
theorem ck221 : codeB 11 false prog_13_method_61_code 0 ac221 = true := by decide +kernel
theorem cm221 : cOkM 221 ac221 := ⟨_, _, _, _, 11, false, mi221, rfl, (fun q => by cases q), ck221⟩
theorem ck222 : codeB 11 false prog_13_method_62_code 0 ac222 = true := by decide +kernel
theorem cm222 : cOkM 222 ac222 := ⟨_, _, _, _, 11, false, mi222, rfl, (fun q => by cases q), ck222⟩
theorem ck223 : codeB 11 false prog_13_method_63_code 0 ac223 = true := by decide +kernel
theorem cm223 : cOkM 223 ac223 := ⟨_, _, _, _, 11, false, mi223, rfl, (fun q => by cases q), ck223⟩
theorem ck224_0 : codeB 11 false prog_13_method_64_code 0 ac224_0 = true := by decide +kernel
theorem ck224_1 : codeB 11 false prog_13_method_64_code 120 ac224_1 = true := by decide +kernel
set_option maxRecDepth 20000 in
theorem ck224 : codeB 11 false prog_13_method_64_code 0 ac224 = true := codeB_app ck224_0 (ck224_1)
theorem cm224 : cOkM 224 ac224 := ⟨_, _, _, _, 11, false, mi224, rfl, (fun q => by cases q), ck224⟩
theorem ck225 : codeB 11 false prog_13_method_65_code 0 ac225 = true := by decide +kernel
theorem cm225 : cOkM 225 ac225 := ⟨_, _, _, _, 11, false, mi225, rfl, (fun q => by cases q), ck225⟩
theorem ck226 : codeB 11 false prog_13_method_66_code 0 ac226 = true := by decide +kernel
theorem cm226 : cOkM 226 ac226 := ⟨_, _, _, _, 11, false, mi226, rfl, (fun q => by cases q), ck226⟩
theorem ck227 : codeB 11 false prog_13_method_67_code 0 ac227 = true := by decide +kernel
theorem cm227 : cOkM 227 ac227 := ⟨_, _, _, _, 11, false, mi227, rfl, (fun q => by cases q), ck227⟩
theorem ck228 : codeB 11 false prog_13_method_68_code 0 ac228 = true := by decide +kernel
theorem cm228 : cOkM 228 ac228 := ⟨_, _, _, _, 11, false, mi228, rfl, (fun q => by cases q), ck228⟩
theorem ck229 : codeB 11 false prog_13_method_69_code 0 ac229 = true := by decide +kernel
theorem cm229 : cOkM 229 ac229 := ⟨_, _, _, _, 11, false, mi229, rfl, (fun q => by cases q), ck229⟩
theorem ck230_0 : codeB 11 false prog_13_method_70_code 0 ac230_0 = true := by decide +kernel
theorem ck230_1 : codeB 11 false prog_13_method_70_code 120 ac230_1 = true := by decide +kernel
set_option maxRecDepth 20000 in
theorem ck230 : codeB 11 false prog_13_method_70_code 0 ac230 = true := codeB_app ck230_0 (ck230_1)
theorem cm230 : cOkM 230 ac230 := ⟨_, _, _, _, 11, false, mi230, rfl, (fun q => by cases q), ck230⟩
theorem ck231 : codeB 11 false prog_13_method_71_code 0 ac231 = true := by decide +kernel
theorem cm231 : cOkM 231 ac231 := ⟨_, _, _, _, 11, false, mi231, rfl, (fun q => by cases q), ck231⟩
theorem ck232 : codeB 11 false prog_13_method_72_code 0 ac232 = true := by decide +kernel
theorem cm232 : cOkM 232 ac232 := ⟨_, _, _, _, 11, false, mi232, rfl, (fun q => by cases q), ck232⟩
theorem ck233 : codeB 11 false prog_13_method_73_code 0 ac233 = true := by decide +kernel
theorem cm233 : cOkM 233 ac233 := ⟨_, _, _, _, 11, false, mi233, rfl, (fun q => by cases q), ck233⟩
theorem ck234 : codeB 11 false prog_13_method_74_code 0 ac234 = true := by decide +kernel
theorem cm234 : cOkM 234 ac234 := ⟨_, _, _, _, 11, false, mi234, rfl, (fun q => by cases q), ck234⟩
theorem ck235 : codeB 11 false prog_13_method_75_code 0 ac235 = true := by decide +kernel
theorem cm235 : cOkM 235 ac235 := ⟨_, _, _, _, 11, false, mi235, rfl, (fun q => by cases q), ck235⟩
theorem ck236 : codeB 11 false prog_13_method_76_code 0 ac236 = true := by decide +kernel
theorem cm236 : cOkM 236 ac236 := ⟨_, _, _, _, 11, false, mi236, rfl, (fun q => by cases q), ck236⟩
theorem ck237 : codeB 11 false prog_13_method_77_code 0 ac237 = true := by decide +kernel
theorem cm237 : cOkM 237 ac237 := ⟨_, _, _, _, 11, false, mi237, rfl, (fun q => by cases q), ck237⟩
theorem ck238 : codeB 11 false prog_13_method_78_code 0 ac238 = true := by decide +kernel
theorem cm238 : cOkM 238 ac238 := ⟨_, _, _, _, 11, false, mi238, rfl, (fun q => by cases q), ck238⟩
theorem ck239 : codeB 11 false prog_13_method_79_code 0 ac239 = true := by decide +kernel
theorem cm239 : cOkM 239 ac239 := ⟨_, _, _, _, 11, false, mi239, rfl, (fun q => by cases q), ck239⟩
theorem ck240 : codeB 11 false prog_13_method_80_code 0 ac240 = true := by decide +kernel
theorem cm240 : cOkM 240 ac240 := ⟨_, _, _, _, 11, false, mi240, rfl, (fun q => by cases q), ck240⟩
theorem ck241 : codeB 11 false prog_13_method_81_code 0 ac241 = true := by decide +kernel
theorem cm241 : cOkM 241 ac241 := ⟨_, _, _, _, 11, false, mi241, rfl, (fun q => by cases q), ck241⟩
theorem ck242 : codeB 11 false prog_13_method_82_code 0 ac242 = true := by decide +kernel
theorem cm242 : cOkM 242 ac242 := ⟨_, _, _, _, 11, false, mi242, rfl, (fun q => by cases q), ck242⟩
theorem ck243 : codeB 11 false prog_13_method_83_code 0 ac243 = true := by decide +kernel
theorem cm243 : cOkM 243 ac243 := ⟨_, _, _, _, 11, false, mi243, rfl, (fun q => by cases q), ck243⟩
theorem ck244_0 : codeB 11 false prog_13_method_84_code 0 ac244_0 = true := by decide +kernel
theorem ck244_1 : codeB 11 false prog_13_method_84_code 120 ac244_1 = true := by decide +kernel
set_option maxRecDepth 20000 in
theorem ck244 : codeB 11 false prog_13_method_84_code 0 ac244 = true := codeB_app ck244_0 (ck244_1)
theorem cm244 : cOkM 244 ac244 := ⟨_, _, _, _, 11, false, mi244, rfl, (fun q => by cases q), ck244⟩
