/-! the check, methods 240 on -/
set_option maxRecDepth 100000 in
theorem ed_240 : e2_chk e2_MT "MeadowSignsModel" false (some .int) prog_12_method_74_code evd_240 = true := by decide +kernel
set_option maxRecDepth 100000 in
theorem ed_241 : e2_chk e2_MT "MeadowSignsModel" false (none) prog_12_method_75_code evd_241 = true := by decide +kernel
set_option maxRecDepth 100000 in
theorem ed_242 : e2_chk e2_MT "MeadowSignsModel" false (none) prog_12_method_76_code evd_242 = true := by decide +kernel
set_option maxRecDepth 100000 in
theorem ed_243 : e2_chk e2_MT "MeadowSignsModel" false (some .int) prog_12_method_77_code evd_243 = true := by decide +kernel
set_option maxRecDepth 100000 in
theorem ed_244 : e2_chk e2_MT "MeadowSignsModel" false (some .int) prog_12_method_78_code evd_244 = true := by decide +kernel
set_option maxRecDepth 100000 in
theorem ed_245 : e2_chk e2_MT "MeadowSignsModel" false (some .int) prog_12_method_79_code evd_245 = true := by decide +kernel
set_option maxRecDepth 100000 in
theorem ed_246 : e2_chk e2_MT "MeadowSignsModel" false (some .int) prog_12_method_80_code evd_246 = true := by decide +kernel
set_option maxRecDepth 100000 in
theorem ed_247 : e2_chk e2_MT "MeadowSignsModel" false (some .boolean) prog_12_method_81_code evd_247 = true := by decide +kernel
set_option maxRecDepth 100000 in
theorem ed_248 : e2_chk e2_MT "MeadowSignsModel" false (some .boolean) prog_12_method_82_code evd_248 = true := by decide +kernel
set_option maxRecDepth 100000 in
theorem ed_249 : e2_chk e2_MT "MeadowSignsModel" false (some .int) prog_12_method_83_code evd_249 = true := by decide +kernel
set_option maxRecDepth 100000 in
theorem ed_250 : e2_chk e2_MT "MeadowSignsModel" false (some .int) prog_12_method_84_code evd_250 = true := by decide +kernel
set_option maxRecDepth 100000 in
theorem ed_251 : e2_chk e2_MT "MeadowSignsModel" false (some .int) prog_12_method_85_code evd_251 = true := by decide +kernel
set_option maxRecDepth 100000 in
theorem ed_252 : e2_chk e2_MT "MeadowSignsModel" false (some .int) prog_12_method_86_code evd_252 = true := by decide +kernel
set_option maxRecDepth 100000 in
theorem ed_253 : e2_chk e2_MT "MeadowSignsModel" false (some .int) prog_12_method_87_code evd_253 = true := by decide +kernel
set_option maxRecDepth 100000 in
theorem ed_254 : e2_chk e2_MT "MeadowSignsModel" false (none) prog_12_method_88_code evd_254 = true := by decide +kernel
set_option maxRecDepth 100000 in
theorem ed_255 : e2_chk e2_MT "MeadowSignsModel" false (none) prog_12_method_89_code evd_255 = true := by decide +kernel
set_option maxRecDepth 100000 in
theorem ed_256 : e2_chk e2_MT "MeadowSignsModel" false (some .int) prog_12_method_90_code evd_256 = true := by decide +kernel
set_option maxRecDepth 100000 in
theorem ed_257 : e2_chk e2_MT "MeadowSignsModel" false (some .int) prog_12_method_91_code evd_257 = true := by decide +kernel
set_option maxRecDepth 100000 in
theorem ed_258 : e2_chk e2_MT "MeadowSignsModel" false (some .int) prog_12_method_92_code evd_258 = true := by decide +kernel
set_option maxRecDepth 100000 in
theorem ed_259 : e2_chk e2_MT "MeadowSignsModel" false (some .boolean) prog_12_method_93_code evd_259 = true := by decide +kernel
set_option maxRecDepth 100000 in
theorem ed_260 : e2_chk e2_MT "MeadowSignsModel" false (some .int) prog_12_method_94_code evd_260 = true := by decide +kernel
set_option maxRecDepth 100000 in
theorem ed_261 : e2_chk e2_MT "MeadowSignsModel" false (some .int) prog_12_method_95_code evd_261 = true := by decide +kernel
set_option maxRecDepth 100000 in
theorem ed_262 : e2_chk e2_MT "MeadowSignsModel" false (some .int) prog_12_method_96_code evd_262 = true := by decide +kernel
set_option maxRecDepth 100000 in
theorem ed_263 : e2_chk e2_MT "MeadowSignsModel" false (some .int) prog_12_method_97_code evd_263 = true := by decide +kernel
