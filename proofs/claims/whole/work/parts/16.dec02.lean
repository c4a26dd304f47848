theorem ck110 : codeB 10 false prog_1_method_24_code 0 ac110 = true := by decide +kernel
theorem cm110 : cOkM 110 ac110 := ⟨_, _, _, _, 10, false, mi110, rfl, (fun q => by cases q), ck110⟩
theorem ck111 : codeB 10 false prog_1_method_25_code 0 ac111 = true := by decide +kernel
theorem cm111 : cOkM 111 ac111 := ⟨_, _, _, _, 10, false, mi111, rfl, (fun q => by cases q), ck111⟩
theorem ck112 : codeB 10 false prog_1_method_26_code 0 ac112 = true := by decide +kernel
theorem cm112 : cOkM 112 ac112 := ⟨_, _, _, _, 10, false, mi112, rfl, (fun q => by cases q), ck112⟩
theorem ck113 : codeB 10 false prog_1_method_27_code 0 ac113 = true := by decide +kernel
theorem cm113 : cOkM 113 ac113 := ⟨_, _, _, _, 10, false, mi113, rfl, (fun q => by cases q), ck113⟩
theorem ck114 : codeB 10 false prog_1_method_28_code 0 ac114 = true := by decide +kernel
theorem cm114 : cOkM 114 ac114 := ⟨_, _, _, _, 10, false, mi114, rfl, (fun q => by cases q), ck114⟩
theorem ck115 : codeB 10 false prog_1_method_29_code 0 ac115 = true := by decide +kernel
theorem cm115 : cOkM 115 ac115 := ⟨_, _, _, _, 10, false, mi115, rfl, (fun q => by cases q), ck115⟩
theorem ck116 : codeB 10 false prog_1_method_30_code 0 ac116 = true := by decide +kernel
theorem cm116 : cOkM 116 ac116 := ⟨_, _, _, _, 10, false, mi116, rfl, (fun q => by cases q), ck116⟩
theorem ck117 : codeB 10 false prog_1_method_31_code 0 ac117 = true := by decide +kernel
theorem cm117 : cOkM 117 ac117 := ⟨_, _, _, _, 10, false, mi117, rfl, (fun q => by cases q), ck117⟩
theorem ck118 : codeB 10 false prog_1_method_32_code 0 ac118 = true := by decide +kernel
theorem cm118 : cOkM 118 ac118 := ⟨_, _, _, _, 10, false, mi118, rfl, (fun q => by cases q), ck118⟩
theorem ck119 : codeB 10 false prog_1_method_33_code 0 ac119 = true := by decide +kernel
theorem cm119 : cOkM 119 ac119 := ⟨_, _, _, _, 10, false, mi119, rfl, (fun q => by cases q), ck119⟩
theorem ck120 : codeB 10 false prog_1_method_34_code 0 ac120 = true := by decide +kernel
theorem cm120 : cOkM 120 ac120 := ⟨_, _, _, _, 10, false, mi120, rfl, (fun q => by cases q), ck120⟩
theorem ck121 : codeB 10 false prog_1_method_35_code 0 ac121 = true := by decide +kernel
theorem cm121 : cOkM 121 ac121 := ⟨_, _, _, _, 10, false, mi121, rfl, (fun q => by cases q), ck121⟩
theorem ck122_0 : codeB 10 false prog_1_method_36_code 0 ac122_0 = true := by decide +kernel
theorem ck122_1 : codeB 10 false prog_1_method_36_code 120 ac122_1 = true := by decide +kernel
set_option maxRecDepth 20000 in
theorem ck122 : codeB 10 false prog_1_method_36_code 0 ac122 = true := codeB_app ck122_0 (ck122_1)
theorem cm122 : cOkM 122 ac122 := ⟨_, _, _, _, 10, false, mi122, rfl, (fun q => by cases q), ck122⟩
theorem ck123 : codeB 10 false prog_1_method_37_code 0 ac123 = true := by decide +kernel
theorem cm123 : cOkM 123 ac123 := ⟨_, _, _, _, 10, false, mi123, rfl, (fun q => by cases q), ck123⟩
theorem ck124 : codeB 10 false prog_1_method_38_code 0 ac124 = true := by decide +kernel
theorem cm124 : cOkM 124 ac124 := ⟨_, _, _, _, 10, false, mi124, rfl, (fun q => by cases q), ck124⟩
theorem ck125 : codeB 10 false prog_1_method_39_code 0 ac125 = true := by decide +kernel
theorem cm125 : cOkM 125 ac125 := ⟨_, _, _, _, 10, false, mi125, rfl, (fun q => by cases q), ck125⟩
theorem ck126 : codeB 10 false prog_1_method_40_code 0 ac126 = true := by decide +kernel
theorem cm126 : cOkM 126 ac126 := ⟨_, _, _, _, 10, false, mi126, rfl, (fun q => by cases q), ck126⟩
theorem ck127 : codeB 10 false prog_1_method_41_code 0 ac127 = true := by decide +kernel
theorem cm127 : cOkM 127 ac127 := ⟨_, _, _, _, 10, false, mi127, rfl, (fun q => by cases q), ck127⟩
theorem ck128 : codeB 10 false prog_1_method_42_code 0 ac128 = true := by decide +kernel
theorem cm128 : cOkM 128 ac128 := ⟨_, _, _, _, 10, false, mi128, rfl, (fun q => by cases q), ck128⟩
theorem ck129 : codeB 10 false prog_1_method_43_code 0 ac129 = true := by decide +kernel
theorem cm129 : cOkM 129 ac129 := ⟨_, _, _, _, 10, false, mi129, rfl, (fun q => by cases q), ck129⟩
theorem ck130 : codeB 10 false prog_1_method_44_code 0 ac130 = true := by decide +kernel
theorem cm130 : cOkM 130 ac130 := ⟨_, _, _, _, 10, false, mi130, rfl, (fun q => by cases q), ck130⟩
theorem ck131 : codeB 10 false prog_1_method_45_code 0 ac131 = true := by decide +kernel
theorem cm131 : cOkM 131 ac131 := ⟨_, _, _, _, 10, false, mi131, rfl, (fun q => by cases q), ck131⟩
theorem ck132_0 : codeB 10 false prog_1_method_46_code 0 ac132_0 = true := by decide +kernel
theorem ck132_1 : codeB 10 false prog_1_method_46_code 120 ac132_1 = true := by decide +kernel
set_option maxRecDepth 20000 in
theorem ck132 : codeB 10 false prog_1_method_46_code 0 ac132 = true := codeB_app ck132_0 (ck132_1)
theorem cm132 : cOkM 132 ac132 := ⟨_, _, _, _, 10, false, mi132, rfl, (fun q => by cases q), ck132⟩
theorem ck133 : codeB 10 false prog_1_method_47_code 0 ac133 = true := by decide +kernel
theorem cm133 : cOkM 133 ac133 := ⟨_, _, _, _, 10, false, mi133, rfl, (fun q => by cases q), ck133⟩
theorem ck134 : codeB 10 false prog_1_method_48_code 0 ac134 = true := by decide +kernel
theorem cm134 : cOkM 134 ac134 := ⟨_, _, _, _, 10, false, mi134, rfl, (fun q => by cases q), ck134⟩
theorem ck135 : codeB 10 false prog_1_method_49_code 0 ac135 = true := by decide +kernel
theorem cm135 : cOkM 135 ac135 := ⟨_, _, _, _, 10, false, mi135, rfl, (fun q => by cases q), ck135⟩
theorem ck136_0 : codeB 10 false prog_1_method_50_code 0 ac136_0 = true := by decide +kernel
theorem ck136_1 : codeB 10 false prog_1_method_50_code 120 ac136_1 = true := by decide +kernel
set_option maxRecDepth 20000 in
theorem ck136 : codeB 10 false prog_1_method_50_code 0 ac136 = true := codeB_app ck136_0 (ck136_1)
theorem cm136 : cOkM 136 ac136 := ⟨_, _, _, _, 10, false, mi136, rfl, (fun q => by cases q), ck136⟩
theorem ck137 : codeB 10 false prog_1_method_51_code 0 ac137 = true := by decide +kernel
theorem cm137 : cOkM 137 ac137 := ⟨_, _, _, _, 10, false, mi137, rfl, (fun q => by cases q), ck137⟩
theorem ck138 : codeB 10 false prog_1_method_52_code 0 ac138 = true := by decide +kernel
theorem cm138 : cOkM 138 ac138 := ⟨_, _, _, _, 10, false, mi138, rfl, (fun q => by cases q), ck138⟩
theorem ck139 : codeB 10 false prog_1_method_53_code 0 ac139 = true := by decide +kernel
theorem cm139 : cOkM 139 ac139 := ⟨_, _, _, _, 10, false, mi139, rfl, (fun q => by cases q), ck139⟩
theorem ck140 : codeB 10 false prog_1_method_54_code 0 ac140 = true := by decide +kernel
theorem cm140 : cOkM 140 ac140 := ⟨_, _, _, _, 10, false, mi140, rfl, (fun q => by cases q), ck140⟩
theorem ck141_0 : codeB 10 false prog_1_method_55_code 0 ac141_0 = true := by decide +kernel
theorem ck141_1 : codeB 10 false prog_1_method_55_code 120 ac141_1 = true := by decide +kernel
set_option maxRecDepth 20000 in
theorem ck141 : codeB 10 false prog_1_method_55_code 0 ac141 = true := codeB_app ck141_0 (ck141_1)
theorem cm141 : cOkM 141 ac141 := ⟨_, _, _, _, 10, false, mi141, rfl, (fun q => by cases q), ck141⟩
theorem ck142 : codeB 10 false prog_1_method_56_code 0 ac142 = true := by decide +kernel
theorem cm142 : cOkM 142 ac142 := ⟨_, _, _, _, 10, false, mi142, rfl, (fun q => by cases q), ck142⟩
theorem ck143 : codeB 10 false prog_1_method_57_code 0 ac143 = true := by decide +kernel
theorem cm143 : cOkM 143 ac143 := ⟨_, _, _, _, 10, false, mi143, rfl, (fun q => by cases q), ck143⟩
theorem ck144 : codeB 10 false prog_1_method_58_code 0 ac144 = true := by decide +kernel
theorem cm144 : cOkM 144 ac144 := ⟨_, _, _, _, 10, false, mi144, rfl, (fun q => by cases q), ck144⟩
theorem ck145_0 : codeB 10 false prog_1_method_59_code 0 ac145_0 = true := by decide +kernel
theorem ck145_1 : codeB 10 false prog_1_method_59_code 120 ac145_1 = true := by decide +kernel
set_option maxRecDepth 20000 in
theorem ck145 : codeB 10 false prog_1_method_59_code 0 ac145 = true := codeB_app ck145_0 (ck145_1)
theorem cm145 : cOkM 145 ac145 := ⟨_, _, _, _, 10, false, mi145, rfl, (fun q => by cases q), ck145⟩
theorem ck146 : codeB 10 false prog_1_method_60_code 0 ac146 = true := by decide +kernel
theorem cm146 : cOkM 146 ac146 := ⟨_, _, _, _, 10, false, mi146, rfl, (fun q => by cases q), ck146⟩
theorem ck147 : codeB 10 false prog_1_method_61_code 0 ac147 = true := by decide +kernel
theorem cm147 : cOkM 147 ac147 := ⟨_, _, _, _, 10, false, mi147, rfl, (fun q => by cases q), ck147⟩
theorem ck148 : codeB 10 false prog_1_method_62_code 0 ac148 = true := by decide +kernel
theorem cm148 : cOkM 148 ac148 := ⟨_, _, _, _, 10, false, mi148, rfl, (fun q => by cases q), ck148⟩
theorem ck149_0 : codeB 10 false prog_1_method_63_code 0 ac149_0 = true := by decide +kernel
theorem ck149_1 : codeB 10 false prog_1_method_63_code 120 ac149_1 = true := by decide +kernel
set_option maxRecDepth 20000 in
theorem ck149 : codeB 10 false prog_1_method_63_code 0 ac149 = true := codeB_app ck149_0 (ck149_1)
theorem cm149 : cOkM 149 ac149 := ⟨_, _, _, _, 10, false, mi149, rfl, (fun q => by cases q), ck149⟩
theorem ck150 : codeB 10 false prog_1_method_64_code 0 ac150 = true := by decide +kernel
theorem cm150 : cOkM 150 ac150 := ⟨_, _, _, _, 10, false, mi150, rfl, (fun q => by cases q), ck150⟩
theorem ck151 : codeB 10 false prog_1_method_65_code 0 ac151 = true := by decide +kernel
theorem cm151 : cOkM 151 ac151 := ⟨_, _, _, _, 10, false, mi151, rfl, (fun q => by cases q), ck151⟩
theorem ck152 : codeB 10 false prog_1_method_66_code 0 ac152 = true := by decide +kernel
theorem cm152 : cOkM 152 ac152 := ⟨_, _, _, _, 10, false, mi152, rfl, (fun q => by cases q), ck152⟩
theorem ck153 : codeB 10 false prog_1_method_67_code 0 ac153 = true := by decide +kernel
theorem cm153 : cOkM 153 ac153 := ⟨_, _, _, _, 10, false, mi153, rfl, (fun q => by cases q), ck153⟩
theorem ck154 : codeB 10 false prog_1_method_68_code 0 ac154 = true := by decide +kernel
theorem cm154 : cOkM 154 ac154 := ⟨_, _, _, _, 10, false, mi154, rfl, (fun q => by cases q), ck154⟩
theorem ck155 : codeB 10 false prog_1_method_69_code 0 ac155 = true := by decide +kernel
theorem cm155 : cOkM 155 ac155 := ⟨_, _, _, _, 10, false, mi155, rfl, (fun q => by cases q), ck155⟩
theorem ck156 : codeB 10 false prog_1_method_70_code 0 ac156 = true := by decide +kernel
theorem cm156 : cOkM 156 ac156 := ⟨_, _, _, _, 10, false, mi156, rfl, (fun q => by cases q), ck156⟩
theorem ck157 : codeB 10 false prog_1_method_71_code 0 ac157 = true := by decide +kernel
theorem cm157 : cOkM 157 ac157 := ⟨_, _, _, _, 10, false, mi157, rfl, (fun q => by cases q), ck157⟩
theorem ck158 : codeB 10 false prog_1_method_72_code 0 ac158 = true := by decide +kernel
theorem cm158 : cOkM 158 ac158 := ⟨_, _, _, _, 10, false, mi158, rfl, (fun q => by cases q), ck158⟩
