/-! the check, methods 264 on -/
set_option maxRecDepth 100000 in
theorem ed_264 : e2_chk e2_MT "MeadowSignsModel" false (some .boolean) prog_12_method_98_code evd_264 = true := by decide +kernel
set_option maxRecDepth 100000 in
theorem ed_265 : e2_chk e2_MT "MeadowSignsModel" false (none) prog_12_method_99_code evd_265 = true := by decide +kernel
set_option maxRecDepth 100000 in
theorem ed_266 : e2_chk e2_MT "MeadowSignsModel" false (some .boolean) prog_12_method_100_code evd_266 = true := by decide +kernel
set_option maxRecDepth 100000 in
theorem ed_267 : e2_chk e2_MT "MeadowSignsModel" false (some .int) prog_12_method_101_code evd_267 = true := by decide +kernel
set_option maxRecDepth 100000 in
theorem ed_268 : e2_chk e2_MT "MeadowSignsModel" false (some .boolean) prog_12_method_102_code evd_268 = true := by decide +kernel
set_option maxRecDepth 100000 in
theorem ed_269 : e2_chk e2_MT "MeadowSignsModel" false (some .int) prog_12_method_103_code evd_269 = true := by decide +kernel
set_option maxRecDepth 100000 in
theorem ed_270 : e2_chk e2_MT "MeadowSignsModel" false (some .int) prog_12_method_104_code evd_270 = true := by decide +kernel
set_option maxRecDepth 100000 in
theorem ed_271 : e2_chk e2_MT "MeadowSignsModel" false (some .int) prog_12_method_105_code evd_271 = true := by decide +kernel
set_option maxRecDepth 100000 in
theorem ed_272 : e2_chk e2_MT "MeadowSignsModel" false (some .int) prog_12_method_106_code evd_272 = true := by decide +kernel
set_option maxRecDepth 100000 in
theorem ed_273 : e2_chk e2_MT "MeadowSignsModel" false (some .boolean) prog_12_method_107_code evd_273 = true := by decide +kernel
set_option maxRecDepth 100000 in
theorem ed_274 : e2_chk e2_MT "MeadowSignsModel" false (some .int) prog_12_method_108_code evd_274 = true := by decide +kernel
set_option maxRecDepth 100000 in
theorem ed_275 : e2_chk e2_MT "MeadowSignsModel" false (some .int) prog_12_method_109_code evd_275 = true := by decide +kernel
set_option maxRecDepth 100000 in
theorem ed_276 : e2_chk e2_MT "MeadowSignsModel" false (some .boolean) prog_12_method_110_code evd_276 = true := by decide +kernel
set_option maxRecDepth 100000 in
theorem ed_277 : e2_chk e2_MT "MeadowSignsModel" false (some .int) prog_12_method_111_code evd_277 = true := by decide +kernel
set_option maxRecDepth 100000 in
theorem ed_278 : e2_chk e2_MT "MeadowSignsModel" false (some .int) prog_12_method_112_code evd_278 = true := by decide +kernel
set_option maxRecDepth 100000 in
theorem ed_279 : e2_chk e2_MT "MeadowSignsModel" false (some .boolean) prog_12_method_113_code evd_279 = true := by decide +kernel
set_option maxRecDepth 100000 in
theorem ed_280 : e2_chk e2_MT "MeadowSignsModel" false (some .int) prog_12_method_114_code evd_280 = true := by decide +kernel
set_option maxRecDepth 100000 in
theorem ed_281 : e2_chk e2_MT "MeadowSignsModel" false (some .boolean) prog_12_method_115_code evd_281 = true := by decide +kernel
set_option maxRecDepth 100000 in
theorem ed_282 : e2_chk e2_MT "MeadowSignsModel" false (none) prog_12_method_116_code evd_282 = true := by decide +kernel
set_option maxRecDepth 100000 in
theorem ed_283 : e2_chk e2_MT "MeadowSignsModel" false (some .int) prog_12_method_117_code evd_283 = true := by decide +kernel
set_option maxRecDepth 100000 in
theorem ed_284 : e2_chk e2_MT "MeadowSignsModel" false (some .int) prog_12_method_118_code evd_284 = true := by decide +kernel
set_option maxRecDepth 100000 in
theorem ed_285 : e2_chk e2_MT "MeadowSignsModel" false (some .int) prog_12_method_119_code evd_285 = true := by decide +kernel
set_option maxRecDepth 100000 in
theorem ed_286 : e2_chk e2_MT "MeadowSignsModel" false (some .int) prog_12_method_120_code evd_286 = true := by decide +kernel
set_option maxRecDepth 100000 in
theorem ed_287 : e2_chk e2_MT "MeadowSignsModel" false (some .int) prog_12_method_121_code evd_287 = true := by decide +kernel
