/-! the check, methods 168 on -/
set_option maxRecDepth 100000 in
theorem ed_168 : e2_chk e2_MT "MeadowSigns" false (some .int) prog_1_method_47_code evd_168 = true := by decide +kernel
set_option maxRecDepth 100000 in
theorem ed_169 : e2_chk e2_MT "MeadowSigns" false (some .boolean) prog_1_method_48_code evd_169 = true := by decide +kernel
set_option maxRecDepth 100000 in
theorem ed_170 : e2_chk e2_MT "MeadowSignsModel" false (some .int) prog_12_method_2_code evd_170 = true := by decide +kernel
set_option maxRecDepth 100000 in
theorem ed_171 : e2_chk e2_MT "MeadowSignsModel" false (some .boolean) prog_12_method_3_code evd_171 = true := by decide +kernel
set_option maxRecDepth 100000 in
theorem ed_172 : e2_chk e2_MT "MeadowSignsModel" false (some .boolean) prog_12_method_4_code evd_172 = true := by decide +kernel
set_option maxRecDepth 100000 in
theorem ed_173 : e2_chk e2_MT "MeadowSignsModel" false (none) prog_12_method_5_code evd_173 = true := by decide +kernel
set_option maxRecDepth 100000 in
theorem ed_174 : e2_chk e2_MT "MeadowSignsModel" false (some .boolean) prog_12_method_6_code evd_174 = true := by decide +kernel
set_option maxRecDepth 100000 in
theorem ed_175 : e2_chk e2_MT "MeadowSignsModel" false (some .boolean) prog_12_method_7_code evd_175 = true := by decide +kernel
set_option maxRecDepth 100000 in
theorem ed_176 : e2_chk e2_MT "MeadowSignsModel" false (some .boolean) prog_12_method_8_code evd_176 = true := by decide +kernel
set_option maxRecDepth 100000 in
theorem ed_177 : e2_chk e2_MT "MeadowSignsModel" false (none) prog_12_method_9_code evd_177 = true := by decide +kernel
set_option maxRecDepth 100000 in
theorem ed_178 : e2_chk e2_MT "MeadowSignsModel" false (some .boolean) prog_12_method_10_code evd_178 = true := by decide +kernel
set_option maxRecDepth 100000 in
theorem ed_179 : e2_chk e2_MT "MeadowSignsModel" false (some .boolean) prog_12_method_11_code evd_179 = true := by decide +kernel
set_option maxRecDepth 100000 in
theorem ed_180 : e2_chk e2_MT "MeadowSignsModel" false (none) prog_12_method_12_code evd_180 = true := by decide +kernel
set_option maxRecDepth 100000 in
theorem ed_181 : e2_chk e2_MT "MeadowSignsModel" false (none) prog_12_method_13_code evd_181 = true := by decide +kernel
set_option maxRecDepth 100000 in
theorem ed_182 : e2_chk e2_MT "MeadowSignsModel" false (some .int) prog_12_method_14_code evd_182 = true := by decide +kernel
set_option maxRecDepth 100000 in
theorem ed_183 : e2_chk e2_MT "MeadowSignsModel" false (some .int) prog_12_method_15_code evd_183 = true := by decide +kernel
set_option maxRecDepth 100000 in
theorem ed_184 : e2_chk e2_MT "MeadowSignsModel" false (some .int) prog_12_method_16_code evd_184 = true := by decide +kernel
set_option maxRecDepth 100000 in
theorem ed_185 : e2_chk e2_MT "MeadowSignsModel" false (some .int) prog_12_method_18_code evd_185 = true := by decide +kernel
set_option maxRecDepth 100000 in
theorem ed_186 : e2_chk e2_MT "MeadowSignsModel" false (some .boolean) prog_12_method_19_code evd_186 = true := by decide +kernel
set_option maxRecDepth 100000 in
theorem ed_187 : e2_chk e2_MT "MeadowSignsModel" false (none) prog_12_method_20_code evd_187 = true := by decide +kernel
set_option maxRecDepth 100000 in
theorem ed_188 : e2_chk e2_MT "MeadowSignsModel" false (some .int) prog_12_method_21_code evd_188 = true := by decide +kernel
set_option maxRecDepth 100000 in
theorem ed_189 : e2_chk e2_MT "MeadowSignsModel" false (some .int) prog_12_method_22_code evd_189 = true := by decide +kernel
set_option maxRecDepth 100000 in
theorem ed_190 : e2_chk e2_MT "MeadowSignsModel" false (some .int) prog_12_method_23_code evd_190 = true := by decide +kernel
set_option maxRecDepth 100000 in
theorem ed_191 : e2_chk e2_MT "MeadowSignsModel" false (some .long) prog_12_method_24_code evd_191 = true := by decide +kernel
