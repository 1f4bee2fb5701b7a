/-! the check, methods 192 on -/
set_option maxRecDepth 100000 in
theorem ed_192 : e2_chk e2_MT "MeadowSignsModel" false (some .int) prog_12_method_25_code evd_192 = true := by decide +kernel
set_option maxRecDepth 100000 in
theorem ed_193 : e2_chk e2_MT "MeadowSignsModel" false (none) prog_12_method_26_code evd_193 = true := by decide +kernel
set_option maxRecDepth 100000 in
theorem ed_194 : e2_chk e2_MT "MeadowSignsModel" false (some .boolean) prog_12_method_27_code evd_194 = true := by decide +kernel
set_option maxRecDepth 100000 in
theorem ed_195 : e2_chk e2_MT "MeadowSignsModel" false (none) prog_12_method_28_code evd_195 = true := by decide +kernel
set_option maxRecDepth 100000 in
theorem ed_196 : e2_chk e2_MT "MeadowSignsModel" false (none) prog_12_method_29_code evd_196 = true := by decide +kernel
set_option maxRecDepth 100000 in
theorem ed_197 : e2_chk e2_MT "MeadowSignsModel" false (none) prog_12_method_30_code evd_197 = true := by decide +kernel
set_option maxRecDepth 100000 in
theorem ed_198 : e2_chk e2_MT "MeadowSignsModel" false (none) prog_12_method_31_code evd_198 = true := by decide +kernel
set_option maxRecDepth 100000 in
theorem ed_199 : e2_chk e2_MT "MeadowSignsModel" false (none) prog_12_method_32_code evd_199 = true := by decide +kernel
set_option maxRecDepth 100000 in
theorem ed_200 : e2_chk e2_MT "MeadowSignsModel" false (none) prog_12_method_33_code evd_200 = true := by decide +kernel
set_option maxRecDepth 100000 in
theorem ed_201 : e2_chk e2_MT "MeadowSignsModel" false (none) prog_12_method_34_code evd_201 = true := by decide +kernel
set_option maxRecDepth 100000 in
theorem ed_202 : e2_chk e2_MT "MeadowSignsModel" false (none) prog_12_method_35_code evd_202 = true := by decide +kernel
set_option maxRecDepth 100000 in
theorem ed_203 : e2_chk e2_MT "MeadowSignsModel" false (some .int) prog_12_method_36_code evd_203 = true := by decide +kernel
set_option maxRecDepth 100000 in
theorem ed_204 : e2_chk e2_MT "MeadowSignsModel" false (some .boolean) prog_12_method_37_code evd_204 = true := by decide +kernel
set_option maxRecDepth 100000 in
theorem ed_205 : e2_chk e2_MT "MeadowSignsModel" false (some .int) prog_12_method_38_code evd_205 = true := by decide +kernel
set_option maxRecDepth 100000 in
theorem ed_206 : e2_chk e2_MT "MeadowSignsModel" false (some .boolean) prog_12_method_39_code evd_206 = true := by decide +kernel
set_option maxRecDepth 100000 in
theorem ed_207 : e2_chk e2_MT "MeadowSignsModel" false (some .boolean) prog_12_method_40_code evd_207 = true := by decide +kernel
set_option maxRecDepth 100000 in
theorem ed_208 : e2_chk e2_MT "MeadowSignsModel" false (some .int) prog_12_method_41_code evd_208 = true := by decide +kernel
set_option maxRecDepth 100000 in
theorem ed_209 : e2_chk e2_MT "MeadowSignsModel" false (some .int) prog_12_method_42_code evd_209 = true := by decide +kernel
set_option maxRecDepth 100000 in
theorem ed_210 : e2_chk e2_MT "MeadowSignsModel" false (some .int) prog_12_method_43_code evd_210 = true := by decide +kernel
set_option maxRecDepth 100000 in
theorem ed_211 : e2_chk e2_MT "MeadowSignsModel" false (some .int) prog_12_method_44_code evd_211 = true := by decide +kernel
set_option maxRecDepth 100000 in
theorem ed_212 : e2_chk e2_MT "MeadowSignsModel" false (some .boolean) prog_12_method_45_code evd_212 = true := by decide +kernel
set_option maxRecDepth 100000 in
theorem ed_213 : e2_chk e2_MT "MeadowSignsModel" false (some .int) prog_12_method_46_code evd_213 = true := by decide +kernel
set_option maxRecDepth 100000 in
theorem ed_214 : e2_chk e2_MT "MeadowSignsModel" false (some .int) prog_12_method_47_code evd_214 = true := by decide +kernel
set_option maxRecDepth 100000 in
theorem ed_215 : e2_chk e2_MT "MeadowSignsModel" false (some .boolean) prog_12_method_48_code evd_215 = true := by decide +kernel
