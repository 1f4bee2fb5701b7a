/-! the check, methods 0 on -/
set_option maxRecDepth 100000 in
theorem ed_0 : e2_chk e2_MT "MeadowSigns$Formula" true (none) prog_2_method_1_code evd_0 = true := by decide +kernel
set_option maxRecDepth 100000 in
theorem ed_1 : e2_chk e2_MT "MeadowSigns$Hearsay" true (none) prog_3_method_1_code evd_1 = true := by decide +kernel
set_option maxRecDepth 100000 in
theorem ed_2 : e2_chk e2_MT "MeadowSigns$History" true (none) prog_4_method_1_code evd_2 = true := by decide +kernel
set_option maxRecDepth 100000 in
theorem ed_3 : e2_chk e2_MT "MeadowSigns$History" false (none) prog_4_method_2_code evd_3 = true := by decide +kernel
set_option maxRecDepth 100000 in
theorem ed_4 : e2_chk e2_MT "MeadowSigns$Parser" true (none) prog_5_method_1_code evd_4 = true := by decide +kernel
set_option maxRecDepth 100000 in
theorem ed_5 : e2_chk e2_MT "MeadowSigns$Planner" true (none) prog_6_method_1_code evd_5 = true := by decide +kernel
set_option maxRecDepth 100000 in
theorem ed_6 : e2_chk e2_MT "MeadowSigns$Reader" true (none) prog_7_method_1_code evd_6 = true := by decide +kernel
set_option maxRecDepth 100000 in
theorem ed_7 : e2_chk e2_MT "MeadowSigns$State" true (none) prog_8_method_1_code evd_7 = true := by decide +kernel
set_option maxRecDepth 100000 in
theorem ed_8 : e2_chk e2_MT "MeadowSigns$State" false (none) prog_8_method_2_code evd_8 = true := by decide +kernel
set_option maxRecDepth 100000 in
theorem ed_9 : e2_chk e2_MT "MeadowSigns$State" false (none) prog_8_method_4_code evd_9 = true := by decide +kernel
set_option maxRecDepth 100000 in
theorem ed_10 : e2_chk e2_MT "MeadowSigns$Tape" true (none) prog_9_method_1_code evd_10 = true := by decide +kernel
set_option maxRecDepth 100000 in
theorem ed_11 : e2_chk e2_MT "MeadowSigns$Told" true (none) prog_10_method_1_code evd_11 = true := by decide +kernel
set_option maxRecDepth 100000 in
theorem ed_12 : e2_chk e2_MT "MeadowSigns" true (none) prog_1_method_1_code evd_12 = true := by decide +kernel
set_option maxRecDepth 100000 in
theorem ed_13 : e2_chk e2_MT "MeadowSignsModel" true (none) prog_12_method_1_code evd_13 = true := by decide +kernel
set_option maxRecDepth 100000 in
theorem ed_14 : e2_chk e2_MT "MeadowSignsModel" false (none) prog_12_method_17_code evd_14 = true := by decide +kernel
set_option maxRecDepth 100000 in
theorem ed_15 : e2_chk e2_MT "MeadowSignsModel" false (none) prog_12_method_57_code evd_15 = true := by decide +kernel
set_option maxRecDepth 100000 in
theorem ed_16 : e2_chk e2_MT "MeadowSigns$Formula" false (none) prog_2_method_2_code evd_16 = true := by decide +kernel
set_option maxRecDepth 100000 in
theorem ed_17 : e2_chk e2_MT "MeadowSigns$Formula" false (some .boolean) prog_2_method_3_code evd_17 = true := by decide +kernel
set_option maxRecDepth 100000 in
theorem ed_18 : e2_chk e2_MT "MeadowSigns$Formula" false (none) prog_2_method_4_code evd_18 = true := by decide +kernel
set_option maxRecDepth 100000 in
theorem ed_19 : e2_chk e2_MT "MeadowSigns$Formula" false (none) prog_2_method_5_code evd_19 = true := by decide +kernel
set_option maxRecDepth 100000 in
theorem ed_20 : e2_chk e2_MT "MeadowSigns$Formula" false (none) prog_2_method_6_code evd_20 = true := by decide +kernel
set_option maxRecDepth 100000 in
theorem ed_21 : e2_chk e2_MT "MeadowSigns$Formula" false (some .int) prog_2_method_7_code evd_21 = true := by decide +kernel
set_option maxRecDepth 100000 in
theorem ed_22 : e2_chk e2_MT "MeadowSigns$Formula" false (some .int) prog_2_method_8_code evd_22 = true := by decide +kernel
set_option maxRecDepth 100000 in
theorem ed_23 : e2_chk e2_MT "MeadowSigns$Hearsay" false (none) prog_3_method_2_code evd_23 = true := by decide +kernel
