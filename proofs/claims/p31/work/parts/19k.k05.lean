/-! the check, methods 96 on -/
set_option maxRecDepth 100000 in
theorem ed_96 : e2_chk e2_MT "MeadowSigns$Reader" false (some .boolean) prog_7_method_12_code evd_96 = true := by decide +kernel
set_option maxRecDepth 100000 in
theorem ed_97 : e2_chk e2_MT "MeadowSigns$Reader" false (some .int) prog_7_method_13_code evd_97 = true := by decide +kernel
set_option maxRecDepth 100000 in
theorem ed_98 : e2_chk e2_MT "MeadowSigns$Reader" false (some .int) prog_7_method_14_code evd_98 = true := by decide +kernel
set_option maxRecDepth 100000 in
theorem ed_99 : e2_chk e2_MT "MeadowSigns$State" false (none) prog_8_method_3_code evd_99 = true := by decide +kernel
set_option maxRecDepth 100000 in
theorem ed_100 : e2_chk e2_MT "MeadowSigns$State" false (none) prog_8_method_5_code evd_100 = true := by decide +kernel
set_option maxRecDepth 100000 in
theorem ed_101 : e2_chk e2_MT "MeadowSigns$State" false (none) prog_8_method_6_code evd_101 = true := by decide +kernel
set_option maxRecDepth 100000 in
theorem ed_102 : e2_chk e2_MT "MeadowSigns$State" false (none) prog_8_method_7_code evd_102 = true := by decide +kernel
set_option maxRecDepth 100000 in
theorem ed_103 : e2_chk e2_MT "MeadowSigns$State" false (none) prog_8_method_8_code evd_103 = true := by decide +kernel
set_option maxRecDepth 100000 in
theorem ed_104 : e2_chk e2_MT "MeadowSigns$Tape" false (some .boolean) prog_9_method_2_code evd_104 = true := by decide +kernel
set_option maxRecDepth 100000 in
theorem ed_105 : e2_chk e2_MT "MeadowSigns$Tape" false (none) prog_9_method_3_code evd_105 = true := by decide +kernel
set_option maxRecDepth 100000 in
theorem ed_106 : e2_chk e2_MT "MeadowSigns$Tape" false (some .boolean) prog_9_method_4_code evd_106 = true := by decide +kernel
set_option maxRecDepth 100000 in
theorem ed_107 : e2_chk e2_MT "MeadowSigns$Tape" false (none) prog_9_method_5_code evd_107 = true := by decide +kernel
set_option maxRecDepth 100000 in
theorem ed_108 : e2_chk e2_MT "MeadowSigns$Tape" false (none) prog_9_method_6_code evd_108 = true := by decide +kernel
set_option maxRecDepth 100000 in
theorem ed_109 : e2_chk e2_MT "MeadowSigns$Tape" false (some .boolean) prog_9_method_7_code evd_109 = true := by decide +kernel
set_option maxRecDepth 100000 in
theorem ed_110 : e2_chk e2_MT "MeadowSigns$Tape" false (some .boolean) prog_9_method_8_code evd_110 = true := by decide +kernel
set_option maxRecDepth 100000 in
theorem ed_111 : e2_chk e2_MT "MeadowSigns$Tape" false (none) prog_9_method_9_code evd_111 = true := by decide +kernel
set_option maxRecDepth 100000 in
theorem ed_112 : e2_chk e2_MT "MeadowSigns$Tape" false (some .int) prog_9_method_10_code evd_112 = true := by decide +kernel
set_option maxRecDepth 100000 in
theorem ed_113 : e2_chk e2_MT "MeadowSigns$Tape" false (none) prog_9_method_11_code evd_113 = true := by decide +kernel
set_option maxRecDepth 100000 in
theorem ed_114 : e2_chk e2_MT "MeadowSigns$Tape" false (none) prog_9_method_12_code evd_114 = true := by decide +kernel
set_option maxRecDepth 100000 in
theorem ed_115 : e2_chk e2_MT "MeadowSigns$Tape" false (some .boolean) prog_9_method_13_code evd_115 = true := by decide +kernel
set_option maxRecDepth 100000 in
theorem ed_116 : e2_chk e2_MT "MeadowSigns$Tape" false (some .int) prog_9_method_14_code evd_116 = true := by decide +kernel
set_option maxRecDepth 100000 in
theorem ed_117 : e2_chk e2_MT "MeadowSigns$Told" false (none) prog_10_method_2_code evd_117 = true := by decide +kernel
set_option maxRecDepth 100000 in
theorem ed_118 : e2_chk e2_MT "MeadowSigns$Told" false (none) prog_10_method_3_code evd_118 = true := by decide +kernel
set_option maxRecDepth 100000 in
theorem ed_119 : e2_chk e2_MT "MeadowSigns$Told" false (none) prog_10_method_4_code evd_119 = true := by decide +kernel
