/-! the check, methods 120 on -/
set_option maxRecDepth 100000 in
theorem ed_120 : e2_chk e2_MT "MeadowSigns$Told" false (none) prog_10_method_5_code evd_120 = true := by decide +kernel
set_option maxRecDepth 100000 in
theorem ed_121 : e2_chk e2_MT "MeadowSigns$Told" false (some .boolean) prog_10_method_6_code evd_121 = true := by decide +kernel
set_option maxRecDepth 100000 in
theorem ed_122 : e2_chk e2_MT "MeadowSigns$Told" false (some .int) prog_10_method_7_code evd_122 = true := by decide +kernel
set_option maxRecDepth 100000 in
theorem ed_123 : e2_chk e2_MT "MeadowSigns" false (some .int) prog_1_method_2_code evd_123 = true := by decide +kernel
set_option maxRecDepth 100000 in
theorem ed_124 : e2_chk e2_MT "MeadowSigns" false (some .int) prog_1_method_3_code evd_124 = true := by decide +kernel
set_option maxRecDepth 100000 in
theorem ed_125 : e2_chk e2_MT "MeadowSigns" false (some .int) prog_1_method_4_code evd_125 = true := by decide +kernel
set_option maxRecDepth 100000 in
theorem ed_126 : e2_chk e2_MT "MeadowSigns" false (some .int) prog_1_method_5_code evd_126 = true := by decide +kernel
set_option maxRecDepth 100000 in
theorem ed_127 : e2_chk e2_MT "MeadowSigns" false (some .int) prog_1_method_6_code evd_127 = true := by decide +kernel
set_option maxRecDepth 100000 in
theorem ed_128 : e2_chk e2_MT "MeadowSigns" false (some .int) prog_1_method_7_code evd_128 = true := by decide +kernel
set_option maxRecDepth 100000 in
theorem ed_129 : e2_chk e2_MT "MeadowSigns" false (some .int) prog_1_method_8_code evd_129 = true := by decide +kernel
set_option maxRecDepth 100000 in
theorem ed_130 : e2_chk e2_MT "MeadowSigns" false (some .int) prog_1_method_9_code evd_130 = true := by decide +kernel
set_option maxRecDepth 100000 in
theorem ed_131 : e2_chk e2_MT "MeadowSigns" false (some .int) prog_1_method_10_code evd_131 = true := by decide +kernel
set_option maxRecDepth 100000 in
theorem ed_132 : e2_chk e2_MT "MeadowSigns" false (some .int) prog_1_method_11_code evd_132 = true := by decide +kernel
set_option maxRecDepth 100000 in
theorem ed_133 : e2_chk e2_MT "MeadowSigns" false (some .boolean) prog_1_method_12_code evd_133 = true := by decide +kernel
set_option maxRecDepth 100000 in
theorem ed_134 : e2_chk e2_MT "MeadowSigns" false (some .boolean) prog_1_method_13_code evd_134 = true := by decide +kernel
set_option maxRecDepth 100000 in
theorem ed_135 : e2_chk e2_MT "MeadowSigns" false (some .int) prog_1_method_14_code evd_135 = true := by decide +kernel
set_option maxRecDepth 100000 in
theorem ed_136 : e2_chk e2_MT "MeadowSigns" false (some .int) prog_1_method_15_code evd_136 = true := by decide +kernel
set_option maxRecDepth 100000 in
theorem ed_137 : e2_chk e2_MT "MeadowSigns" false (some .int) prog_1_method_16_code evd_137 = true := by decide +kernel
set_option maxRecDepth 100000 in
theorem ed_138 : e2_chk e2_MT "MeadowSigns" false (some .int) prog_1_method_17_code evd_138 = true := by decide +kernel
set_option maxRecDepth 100000 in
theorem ed_139 : e2_chk e2_MT "MeadowSigns" false (some .int) prog_1_method_18_code evd_139 = true := by decide +kernel
set_option maxRecDepth 100000 in
theorem ed_140 : e2_chk e2_MT "MeadowSigns" false (some .int) prog_1_method_19_code evd_140 = true := by decide +kernel
set_option maxRecDepth 100000 in
theorem ed_141 : e2_chk e2_MT "MeadowSigns" false (some .int) prog_1_method_20_code evd_141 = true := by decide +kernel
set_option maxRecDepth 100000 in
theorem ed_142 : e2_chk e2_MT "MeadowSigns" false (some .int) prog_1_method_21_code evd_142 = true := by decide +kernel
set_option maxRecDepth 100000 in
theorem ed_143 : e2_chk e2_MT "MeadowSigns" false (some .int) prog_1_method_22_code evd_143 = true := by decide +kernel
