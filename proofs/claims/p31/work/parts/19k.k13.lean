/-! the check, methods 288 on -/
set_option maxRecDepth 100000 in
theorem ed_288 : e2_chk e2_MT "MeadowSignsModel" false (some .int) prog_12_method_122_code evd_288 = true := by decide +kernel
set_option maxRecDepth 100000 in
theorem ed_289 : e2_chk e2_MT "MeadowSignsModel" false (some .int) prog_12_method_123_code evd_289 = true := by decide +kernel
set_option maxRecDepth 100000 in
theorem ed_290 : e2_chk e2_MT "MeadowSignsModel" false (some .int) prog_12_method_124_code evd_290 = true := by decide +kernel
set_option maxRecDepth 100000 in
theorem ed_291 : e2_chk e2_MT "java/lang/Integer" false (some .int) prog_13_method_49_code evd_291 = true := by decide +kernel
