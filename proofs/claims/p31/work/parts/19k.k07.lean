/-! the check, methods 144 on -/
set_option maxRecDepth 100000 in
theorem ed_144 : e2_chk e2_MT "MeadowSigns" false (some .int) prog_1_method_23_code evd_144 = true := by decide +kernel
set_option maxRecDepth 100000 in
theorem ed_145 : e2_chk e2_MT "MeadowSigns" false (some .int) prog_1_method_24_code evd_145 = true := by decide +kernel
set_option maxRecDepth 100000 in
theorem ed_146 : e2_chk e2_MT "MeadowSigns" false (some .int) prog_1_method_25_code evd_146 = true := by decide +kernel
set_option maxRecDepth 100000 in
theorem ed_147 : e2_chk e2_MT "MeadowSigns" false (some .int) prog_1_method_26_code evd_147 = true := by decide +kernel
set_option maxRecDepth 100000 in
theorem ed_148 : e2_chk e2_MT "MeadowSigns" false (some .int) prog_1_method_27_code evd_148 = true := by decide +kernel
set_option maxRecDepth 100000 in
theorem ed_149 : e2_chk e2_MT "MeadowSigns" false (some .int) prog_1_method_28_code evd_149 = true := by decide +kernel
set_option maxRecDepth 100000 in
theorem ed_150 : e2_chk e2_MT "MeadowSigns" false (some .int) prog_1_method_29_code evd_150 = true := by decide +kernel
set_option maxRecDepth 100000 in
theorem ed_151 : e2_chk e2_MT "MeadowSigns" false (some .boolean) prog_1_method_30_code evd_151 = true := by decide +kernel
set_option maxRecDepth 100000 in
theorem ed_152 : e2_chk e2_MT "MeadowSigns" false (some .int) prog_1_method_31_code evd_152 = true := by decide +kernel
set_option maxRecDepth 100000 in
theorem ed_153 : e2_chk e2_MT "MeadowSigns" false (some .int) prog_1_method_32_code evd_153 = true := by decide +kernel
set_option maxRecDepth 100000 in
theorem ed_154 : e2_chk e2_MT "MeadowSigns" false (some .int) prog_1_method_33_code evd_154 = true := by decide +kernel
set_option maxRecDepth 100000 in
theorem ed_155 : e2_chk e2_MT "MeadowSigns" false (some .int) prog_1_method_34_code evd_155 = true := by decide +kernel
set_option maxRecDepth 100000 in
theorem ed_156 : e2_chk e2_MT "MeadowSigns" false (some .int) prog_1_method_35_code evd_156 = true := by decide +kernel
set_option maxRecDepth 100000 in
theorem ed_157 : e2_chk e2_MT "MeadowSigns" false (some .int) prog_1_method_36_code evd_157 = true := by decide +kernel
set_option maxRecDepth 100000 in
theorem ed_158 : e2_chk e2_MT "MeadowSigns" false (some .int) prog_1_method_37_code evd_158 = true := by decide +kernel
set_option maxRecDepth 100000 in
theorem ed_159 : e2_chk e2_MT "MeadowSigns" false (some .boolean) prog_1_method_38_code evd_159 = true := by decide +kernel
set_option maxRecDepth 100000 in
theorem ed_160 : e2_chk e2_MT "MeadowSigns" false (some .int) prog_1_method_39_code evd_160 = true := by decide +kernel
set_option maxRecDepth 100000 in
theorem ed_161 : e2_chk e2_MT "MeadowSigns" false (some .boolean) prog_1_method_40_code evd_161 = true := by decide +kernel
set_option maxRecDepth 100000 in
theorem ed_162 : e2_chk e2_MT "MeadowSigns" false (some .boolean) prog_1_method_41_code evd_162 = true := by decide +kernel
set_option maxRecDepth 100000 in
theorem ed_163 : e2_chk e2_MT "MeadowSigns" false (some .boolean) prog_1_method_42_code evd_163 = true := by decide +kernel
set_option maxRecDepth 100000 in
theorem ed_164 : e2_chk e2_MT "MeadowSigns" false (some .int) prog_1_method_43_code evd_164 = true := by decide +kernel
set_option maxRecDepth 100000 in
theorem ed_165 : e2_chk e2_MT "MeadowSigns" false (some .boolean) prog_1_method_44_code evd_165 = true := by decide +kernel
set_option maxRecDepth 100000 in
theorem ed_166 : e2_chk e2_MT "MeadowSigns" false (some .int) prog_1_method_45_code evd_166 = true := by decide +kernel
set_option maxRecDepth 100000 in
theorem ed_167 : e2_chk e2_MT "MeadowSigns" false (some .boolean) prog_1_method_46_code evd_167 = true := by decide +kernel
