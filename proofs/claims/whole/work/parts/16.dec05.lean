theorem ck245 : codeB 11 false prog_13_method_85_code 0 ac245 = true := by decide +kernel
theorem cm245 : cOkM 245 ac245 := ⟨_, _, _, _, 11, false, mi245, rfl, (fun q => by cases q), ck245⟩
theorem ck246 : codeB 11 false prog_13_method_86_code 0 ac246 = true := by decide +kernel
theorem cm246 : cOkM 246 ac246 := ⟨_, _, _, _, 11, false, mi246, rfl, (fun q => by cases q), ck246⟩
theorem ck247 : codeB 11 false prog_13_method_87_code 0 ac247 = true := by decide +kernel
theorem cm247 : cOkM 247 ac247 := ⟨_, _, _, _, 11, false, mi247, rfl, (fun q => by cases q), ck247⟩
theorem ck248_0 : codeB 11 false prog_13_method_88_code 0 ac248_0 = true := by decide +kernel
theorem ck248_1 : codeB 11 false prog_13_method_88_code 120 ac248_1 = true := by decide +kernel
set_option maxRecDepth 20000 in
theorem ck248 : codeB 11 false prog_13_method_88_code 0 ac248 = true := codeB_app ck248_0 (ck248_1)
theorem cm248 : cOkM 248 ac248 := ⟨_, _, _, _, 11, false, mi248, rfl, (fun q => by cases q), ck248⟩
theorem ck249 : codeB 11 false prog_13_method_89_code 0 ac249 = true := by decide +kernel
theorem cm249 : cOkM 249 ac249 := ⟨_, _, _, _, 11, false, mi249, rfl, (fun q => by cases q), ck249⟩
theorem ck250 : codeB 11 false prog_13_method_90_code 0 ac250 = true := by decide +kernel
theorem cm250 : cOkM 250 ac250 := ⟨_, _, _, _, 11, false, mi250, rfl, (fun q => by cases q), ck250⟩
theorem ck251 : codeB 11 false prog_13_method_91_code 0 ac251 = true := by decide +kernel
theorem cm251 : cOkM 251 ac251 := ⟨_, _, _, _, 11, false, mi251, rfl, (fun q => by cases q), ck251⟩
theorem ck252_0 : codeB 11 false prog_13_method_92_code 0 ac252_0 = true := by decide +kernel
theorem ck252_1 : codeB 11 false prog_13_method_92_code 120 ac252_1 = true := by decide +kernel
set_option maxRecDepth 20000 in
theorem ck252 : codeB 11 false prog_13_method_92_code 0 ac252 = true := codeB_app ck252_0 (ck252_1)
theorem cm252 : cOkM 252 ac252 := ⟨_, _, _, _, 11, false, mi252, rfl, (fun q => by cases q), ck252⟩
theorem ck253 : codeB 11 false prog_13_method_93_code 0 ac253 = true := by decide +kernel
theorem cm253 : cOkM 253 ac253 := ⟨_, _, _, _, 11, false, mi253, rfl, (fun q => by cases q), ck253⟩
theorem ck254 : codeB 11 false prog_13_method_94_code 0 ac254 = true := by decide +kernel
theorem cm254 : cOkM 254 ac254 := ⟨_, _, _, _, 11, false, mi254, rfl, (fun q => by cases q), ck254⟩
theorem ck255 : codeB 11 false prog_13_method_95_code 0 ac255 = true := by decide +kernel
theorem cm255 : cOkM 255 ac255 := ⟨_, _, _, _, 11, false, mi255, rfl, (fun q => by cases q), ck255⟩
theorem ck256 : codeB 11 false prog_13_method_96_code 0 ac256 = true := by decide +kernel
theorem cm256 : cOkM 256 ac256 := ⟨_, _, _, _, 11, false, mi256, rfl, (fun q => by cases q), ck256⟩
theorem ck257 : codeB 11 false prog_13_method_97_code 0 ac257 = true := by decide +kernel
theorem cm257 : cOkM 257 ac257 := ⟨_, _, _, _, 11, false, mi257, rfl, (fun q => by cases q), ck257⟩
theorem ck258 : codeB 11 false prog_13_method_98_code 0 ac258 = true := by decide +kernel
theorem cm258 : cOkM 258 ac258 := ⟨_, _, _, _, 11, false, mi258, rfl, (fun q => by cases q), ck258⟩
theorem ck259 : codeB 11 false prog_13_method_99_code 0 ac259 = true := by decide +kernel
theorem cm259 : cOkM 259 ac259 := ⟨_, _, _, _, 11, false, mi259, rfl, (fun q => by cases q), ck259⟩
theorem ck260 : codeB 11 false prog_13_method_100_code 0 ac260 = true := by decide +kernel
theorem cm260 : cOkM 260 ac260 := ⟨_, _, _, _, 11, false, mi260, rfl, (fun q => by cases q), ck260⟩
theorem ck261 : codeB 11 false prog_13_method_101_code 0 ac261 = true := by decide +kernel
theorem cm261 : cOkM 261 ac261 := ⟨_, _, _, _, 11, false, mi261, rfl, (fun q => by cases q), ck261⟩
theorem ck262 : codeB 11 false prog_13_method_102_code 0 ac262 = true := by decide +kernel
theorem cm262 : cOkM 262 ac262 := ⟨_, _, _, _, 11, false, mi262, rfl, (fun q => by cases q), ck262⟩
theorem ck263 : codeB 11 false prog_13_method_103_code 0 ac263 = true := by decide +kernel
theorem cm263 : cOkM 263 ac263 := ⟨_, _, _, _, 11, false, mi263, rfl, (fun q => by cases q), ck263⟩
theorem ck264 : codeB 11 false prog_13_method_104_code 0 ac264 = true := by decide +kernel
theorem cm264 : cOkM 264 ac264 := ⟨_, _, _, _, 11, false, mi264, rfl, (fun q => by cases q), ck264⟩
theorem ck265 : codeB 11 false prog_13_method_105_code 0 ac265 = true := by decide +kernel
theorem cm265 : cOkM 265 ac265 := ⟨_, _, _, _, 11, false, mi265, rfl, (fun q => by cases q), ck265⟩
theorem ck266_0 : codeB 11 false prog_13_method_106_code 0 ac266_0 = true := by decide +kernel
theorem ck266_1 : codeB 11 false prog_13_method_106_code 120 ac266_1 = true := by decide +kernel
set_option maxRecDepth 20000 in
theorem ck266 : codeB 11 false prog_13_method_106_code 0 ac266 = true := codeB_app ck266_0 (ck266_1)
theorem cm266 : cOkM 266 ac266 := ⟨_, _, _, _, 11, false, mi266, rfl, (fun q => by cases q), ck266⟩
theorem ck267 : codeB 11 false prog_13_method_107_code 0 ac267 = true := by decide +kernel
theorem cm267 : cOkM 267 ac267 := ⟨_, _, _, _, 11, false, mi267, rfl, (fun q => by cases q), ck267⟩
theorem ck268 : codeB 11 false prog_13_method_108_code 0 ac268 = true := by decide +kernel
theorem cm268 : cOkM 268 ac268 := ⟨_, _, _, _, 11, false, mi268, rfl, (fun q => by cases q), ck268⟩
theorem ck269 : codeB 11 false prog_13_method_109_code 0 ac269 = true := by decide +kernel
theorem cm269 : cOkM 269 ac269 := ⟨_, _, _, _, 11, false, mi269, rfl, (fun q => by cases q), ck269⟩
theorem ck270 : codeB 11 false prog_13_method_110_code 0 ac270 = true := by decide +kernel
theorem cm270 : cOkM 270 ac270 := ⟨_, _, _, _, 11, false, mi270, rfl, (fun q => by cases q), ck270⟩
theorem ck271 : codeB 11 false prog_13_method_111_code 0 ac271 = true := by decide +kernel
theorem cm271 : cOkM 271 ac271 := ⟨_, _, _, _, 11, false, mi271, rfl, (fun q => by cases q), ck271⟩
theorem ck272 : codeB 11 false prog_13_method_112_code 0 ac272 = true := by decide +kernel
theorem cm272 : cOkM 272 ac272 := ⟨_, _, _, _, 11, false, mi272, rfl, (fun q => by cases q), ck272⟩
theorem ck273 : codeB 11 false prog_13_method_113_code 0 ac273 = true := by decide +kernel
theorem cm273 : cOkM 273 ac273 := ⟨_, _, _, _, 11, false, mi273, rfl, (fun q => by cases q), ck273⟩
theorem ck274 : codeB 11 false prog_13_method_114_code 0 ac274 = true := by decide +kernel
theorem cm274 : cOkM 274 ac274 := ⟨_, _, _, _, 11, false, mi274, rfl, (fun q => by cases q), ck274⟩
theorem ck275 : codeB 11 false prog_13_method_115_code 0 ac275 = true := by decide +kernel
theorem cm275 : cOkM 275 ac275 := ⟨_, _, _, _, 11, false, mi275, rfl, (fun q => by cases q), ck275⟩
theorem ck276_0 : codeB 11 false prog_13_method_116_code 0 ac276_0 = true := by decide +kernel
theorem ck276_1 : codeB 11 false prog_13_method_116_code 120 ac276_1 = true := by decide +kernel
set_option maxRecDepth 20000 in
theorem ck276 : codeB 11 false prog_13_method_116_code 0 ac276 = true := codeB_app ck276_0 (ck276_1)
theorem cm276 : cOkM 276 ac276 := ⟨_, _, _, _, 11, false, mi276, rfl, (fun q => by cases q), ck276⟩
theorem ck277 : codeB 12 false prog_19_method_49_code 0 ac277 = true := by decide +kernel
theorem cm277 : cOkM 277 ac277 := ⟨_, _, _, _, 12, false, mi277, rfl, (fun q => by cases q), ck277⟩
theorem ck278 : codeB 13 false prog_20_method_50_code 0 ac278 = true := by decide +kernel
theorem cm278 : cOkM 278 ac278 := ⟨_, _, _, _, 13, false, mi278, rfl, (fun q => by cases q), ck278⟩
theorem ck279 : codeB 13 false prog_20_method_59_code 0 ac279 = true := by decide +kernel
theorem cm279 : cOkM 279 ac279 := ⟨_, _, _, _, 13, false, mi279, rfl, (fun q => by cases q), ck279⟩
theorem ck280 : codeB 13 false prog_20_method_65_code 0 ac280 = true := by decide +kernel
theorem cm280 : cOkM 280 ac280 := ⟨_, _, _, _, 13, false, mi280, rfl, (fun q => by cases q), ck280⟩
theorem ck281 : codeB 13 false prog_20_method_66_code 0 ac281 = true := by decide +kernel
theorem cm281 : cOkM 281 ac281 := ⟨_, _, _, _, 13, false, mi281, rfl, (fun q => by cases q), ck281⟩
theorem ck282 : codeB 13 false prog_20_method_69_code 0 ac282 = true := by decide +kernel
theorem cm282 : cOkM 282 ac282 := ⟨_, _, _, _, 13, false, mi282, rfl, (fun q => by cases q), ck282⟩
theorem ck283 : codeB 13 false prog_20_method_70_code 0 ac283 = true := by decide +kernel
theorem cm283 : cOkM 283 ac283 := ⟨_, _, _, _, 13, false, mi283, rfl, (fun q => by cases q), ck283⟩
theorem ck284 : codeB 14 false prog_22_method_54_code 0 ac284 = true := by decide +kernel
theorem cm284 : cOkM 284 ac284 := ⟨_, _, _, _, 14, false, mi284, rfl, (fun q => by cases q), ck284⟩
theorem ck285 : codeB 14 false prog_22_method_79_code 0 ac285 = true := by decide +kernel
theorem cm285 : cOkM 285 ac285 := ⟨_, _, _, _, 14, false, mi285, rfl, (fun q => by cases q), ck285⟩
theorem ck286 : codeB 14 false prog_22_method_80_code 0 ac286 = true := by decide +kernel
theorem cm286 : cOkM 286 ac286 := ⟨_, _, _, _, 14, false, mi286, rfl, (fun q => by cases q), ck286⟩
theorem ck287 : codeB 14 false prog_22_method_152_code 0 ac287 = true := by decide +kernel
theorem cm287 : cOkM 287 ac287 := ⟨_, _, _, _, 14, false, mi287, rfl, (fun q => by cases q), ck287⟩
theorem ck288 : codeB 14 false prog_22_method_154_code 0 ac288 = true := by decide +kernel
theorem cm288 : cOkM 288 ac288 := ⟨_, _, _, _, 14, false, mi288, rfl, (fun q => by cases q), ck288⟩
theorem ck289 : codeB 15 false prog_23_method_4_code 0 ac289 = true := by decide +kernel
theorem cm289 : cOkM 289 ac289 := ⟨_, _, _, _, 15, false, mi289, rfl, (fun q => by cases q), ck289⟩
theorem ck290 : codeB 15 false prog_23_method_22_code 0 ac290 = true := by decide +kernel
theorem cm290 : cOkM 290 ac290 := ⟨_, _, _, _, 15, false, mi290, rfl, (fun q => by cases q), ck290⟩
theorem ck291 : codeB 15 false prog_23_method_23_code 0 ac291 = true := by decide +kernel
theorem cm291 : cOkM 291 ac291 := ⟨_, _, _, _, 15, false, mi291, rfl, (fun q => by cases q), ck291⟩
theorem ck292 : codeB 16 false prog_29_method_101_code 0 ac292 = true := by decide +kernel
theorem cm292 : cOkM 292 ac292 := ⟨_, _, _, _, 16, false, mi292, rfl, (fun q => by cases q), ck292⟩
theorem ck293 : codeB 16 false prog_29_method_103_code 0 ac293 = true := by decide +kernel
theorem cm293 : cOkM 293 ac293 := ⟨_, _, _, _, 16, false, mi293, rfl, (fun q => by cases q), ck293⟩
theorem ck300_0 : codeB 17 false code 0 ac300_0 = true := by decide +kernel
theorem ck300_1 : codeB 17 false code 120 ac300_1 = true := by decide +kernel
theorem ck300_2 : codeB 17 false code 240 ac300_2 = true := by decide +kernel
theorem ck300_3 : codeB 17 false code 360 ac300_3 = true := by decide +kernel
theorem ck300_4 : codeB 17 false code 480 ac300_4 = true := by decide +kernel
theorem ck300_5 : codeB 17 false code 600 ac300_5 = true := by decide +kernel
theorem ck300_6 : codeB 17 false code 720 ac300_6 = true := by decide +kernel
theorem ck300_7 : codeB 17 false code 840 ac300_7 = true := by decide +kernel
theorem ck300_8 : codeB 17 false code 960 ac300_8 = true := by decide +kernel
theorem ck300_9 : codeB 17 false code 1080 ac300_9 = true := by decide +kernel
theorem ck300_10 : codeB 17 false code 1200 ac300_10 = true := by decide +kernel
theorem ck300_11 : codeB 17 false code 1320 ac300_11 = true := by decide +kernel
theorem ck300_12 : codeB 17 false code 1440 ac300_12 = true := by decide +kernel
theorem ck300_13 : codeB 17 false code 1560 ac300_13 = true := by decide +kernel
theorem ck300_14 : codeB 17 false code 1680 ac300_14 = true := by decide +kernel
