/-! the check, methods 216 on -/
set_option maxRecDepth 100000 in
theorem ed_216 : e2_chk e2_MT "MeadowSignsModel" false (some .int) prog_12_method_49_code evd_216 = true := by decide +kernel
set_option maxRecDepth 100000 in
theorem ed_217 : e2_chk e2_MT "MeadowSignsModel" false (some .int) prog_12_method_50_code evd_217 = true := by decide +kernel
set_option maxRecDepth 100000 in
theorem ed_218 : e2_chk e2_MT "MeadowSignsModel" false (some .boolean) prog_12_method_51_code evd_218 = true := by decide +kernel
set_option maxRecDepth 100000 in
theorem ed_219 : e2_chk e2_MT "MeadowSignsModel" false (some .boolean) prog_12_method_52_code evd_219 = true := by decide +kernel
set_option maxRecDepth 100000 in
theorem ed_220 : e2_chk e2_MT "MeadowSignsModel" false (some .boolean) prog_12_method_53_code evd_220 = true := by decide +kernel
set_option maxRecDepth 100000 in
theorem ed_221 : e2_chk e2_MT "MeadowSignsModel" false (some .int) prog_12_method_54_code evd_221 = true := by decide +kernel
set_option maxRecDepth 100000 in
theorem ed_222 : e2_chk e2_MT "MeadowSignsModel" false (some .int) prog_12_method_55_code evd_222 = true := by decide +kernel
set_option maxRecDepth 100000 in
theorem ed_223 : e2_chk e2_MT "MeadowSignsModel" false (some .int) prog_12_method_56_code evd_223 = true := by decide +kernel
set_option maxRecDepth 100000 in
theorem ed_224 : e2_chk e2_MT "MeadowSignsModel" false (none) prog_12_method_58_code evd_224 = true := by decide +kernel
set_option maxRecDepth 100000 in
theorem ed_225 : e2_chk e2_MT "MeadowSignsModel" false (some .boolean) prog_12_method_59_code evd_225 = true := by decide +kernel
set_option maxRecDepth 100000 in
theorem ed_226 : e2_chk e2_MT "MeadowSignsModel" false (some .boolean) prog_12_method_60_code evd_226 = true := by decide +kernel
set_option maxRecDepth 100000 in
theorem ed_227 : e2_chk e2_MT "MeadowSignsModel" false (some .int) prog_12_method_61_code evd_227 = true := by decide +kernel
set_option maxRecDepth 100000 in
theorem ed_228 : e2_chk e2_MT "MeadowSignsModel" false (some .int) prog_12_method_62_code evd_228 = true := by decide +kernel
set_option maxRecDepth 100000 in
theorem ed_229 : e2_chk e2_MT "MeadowSignsModel" false (none) prog_12_method_63_code evd_229 = true := by decide +kernel
set_option maxRecDepth 100000 in
theorem ed_230 : e2_chk e2_MT "MeadowSignsModel" false (some .int) prog_12_method_64_code evd_230 = true := by decide +kernel
set_option maxRecDepth 100000 in
theorem ed_231 : e2_chk e2_MT "MeadowSignsModel" false (some .int) prog_12_method_65_code evd_231 = true := by decide +kernel
set_option maxRecDepth 100000 in
theorem ed_232 : e2_chk e2_MT "MeadowSignsModel" false (some .int) prog_12_method_66_code evd_232 = true := by decide +kernel
set_option maxRecDepth 100000 in
theorem ed_233 : e2_chk e2_MT "MeadowSignsModel" false (some .int) prog_12_method_67_code evd_233 = true := by decide +kernel
set_option maxRecDepth 100000 in
theorem ed_234 : e2_chk e2_MT "MeadowSignsModel" false (some .int) prog_12_method_68_code evd_234 = true := by decide +kernel
set_option maxRecDepth 100000 in
theorem ed_235 : e2_chk e2_MT "MeadowSignsModel" false (some .boolean) prog_12_method_69_code evd_235 = true := by decide +kernel
set_option maxRecDepth 100000 in
theorem ed_236 : e2_chk e2_MT "MeadowSignsModel" false (some .int) prog_12_method_70_code evd_236 = true := by decide +kernel
set_option maxRecDepth 100000 in
theorem ed_237 : e2_chk e2_MT "MeadowSignsModel" false (some .int) prog_12_method_71_code evd_237 = true := by decide +kernel
set_option maxRecDepth 100000 in
theorem ed_238 : e2_chk e2_MT "MeadowSignsModel" false (some .int) prog_12_method_72_code evd_238 = true := by decide +kernel
set_option maxRecDepth 100000 in
theorem ed_239 : e2_chk e2_MT "MeadowSignsModel" false (some .int) prog_12_method_73_code evd_239 = true := by decide +kernel
