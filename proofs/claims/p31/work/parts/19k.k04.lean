/-! the check, methods 72 on -/
set_option maxRecDepth 100000 in
theorem ed_72 : e2_chk e2_MT "MeadowSigns$Planner" false (some .boolean) prog_6_method_11_code evd_72 = true := by decide +kernel
set_option maxRecDepth 100000 in
theorem ed_73 : e2_chk e2_MT "MeadowSigns$Planner" false (some .boolean) prog_6_method_12_code evd_73 = true := by decide +kernel
set_option maxRecDepth 100000 in
theorem ed_74 : e2_chk e2_MT "MeadowSigns$Planner" false (some .boolean) prog_6_method_13_code evd_74 = true := by decide +kernel
set_option maxRecDepth 100000 in
theorem ed_75 : e2_chk e2_MT "MeadowSigns$Planner" false (some .int) prog_6_method_14_code evd_75 = true := by decide +kernel
set_option maxRecDepth 100000 in
theorem ed_76 : e2_chk e2_MT "MeadowSigns$Planner" false (some .int) prog_6_method_15_code evd_76 = true := by decide +kernel
set_option maxRecDepth 100000 in
theorem ed_77 : e2_chk e2_MT "MeadowSigns$Planner" false (some .int) prog_6_method_16_code evd_77 = true := by decide +kernel
set_option maxRecDepth 100000 in
theorem ed_78 : e2_chk e2_MT "MeadowSigns$Planner" false (some .int) prog_6_method_17_code evd_78 = true := by decide +kernel
set_option maxRecDepth 100000 in
theorem ed_79 : e2_chk e2_MT "MeadowSigns$Planner" false (none) prog_6_method_18_code evd_79 = true := by decide +kernel
set_option maxRecDepth 100000 in
theorem ed_80 : e2_chk e2_MT "MeadowSigns$Planner" false (some .int) prog_6_method_19_code evd_80 = true := by decide +kernel
set_option maxRecDepth 100000 in
theorem ed_81 : e2_chk e2_MT "MeadowSigns$Planner" false (some .boolean) prog_6_method_20_code evd_81 = true := by decide +kernel
set_option maxRecDepth 100000 in
theorem ed_82 : e2_chk e2_MT "MeadowSigns$Planner" false (some .int) prog_6_method_21_code evd_82 = true := by decide +kernel
set_option maxRecDepth 100000 in
theorem ed_83 : e2_chk e2_MT "MeadowSigns$Planner" false (some .int) prog_6_method_22_code evd_83 = true := by decide +kernel
set_option maxRecDepth 100000 in
theorem ed_84 : e2_chk e2_MT "MeadowSigns$Planner" false (some .int) prog_6_method_23_code evd_84 = true := by decide +kernel
set_option maxRecDepth 100000 in
theorem ed_85 : e2_chk e2_MT "MeadowSigns$Planner" false (some .int) prog_6_method_24_code evd_85 = true := by decide +kernel
set_option maxRecDepth 100000 in
theorem ed_86 : e2_chk e2_MT "MeadowSigns$Reader" false (none) prog_7_method_2_code evd_86 = true := by decide +kernel
set_option maxRecDepth 100000 in
theorem ed_87 : e2_chk e2_MT "MeadowSigns$Reader" false (none) prog_7_method_3_code evd_87 = true := by decide +kernel
set_option maxRecDepth 100000 in
theorem ed_88 : e2_chk e2_MT "MeadowSigns$Reader" false (some .int) prog_7_method_4_code evd_88 = true := by decide +kernel
set_option maxRecDepth 100000 in
theorem ed_89 : e2_chk e2_MT "MeadowSigns$Reader" false (some .int) prog_7_method_5_code evd_89 = true := by decide +kernel
set_option maxRecDepth 100000 in
theorem ed_90 : e2_chk e2_MT "MeadowSigns$Reader" false (some .int) prog_7_method_6_code evd_90 = true := by decide +kernel
set_option maxRecDepth 100000 in
theorem ed_91 : e2_chk e2_MT "MeadowSigns$Reader" false (none) prog_7_method_7_code evd_91 = true := by decide +kernel
set_option maxRecDepth 100000 in
theorem ed_92 : e2_chk e2_MT "MeadowSigns$Reader" false (some .boolean) prog_7_method_8_code evd_92 = true := by decide +kernel
set_option maxRecDepth 100000 in
theorem ed_93 : e2_chk e2_MT "MeadowSigns$Reader" false (none) prog_7_method_9_code evd_93 = true := by decide +kernel
set_option maxRecDepth 100000 in
theorem ed_94 : e2_chk e2_MT "MeadowSigns$Reader" false (some .boolean) prog_7_method_10_code evd_94 = true := by decide +kernel
set_option maxRecDepth 100000 in
theorem ed_95 : e2_chk e2_MT "MeadowSigns$Reader" false (some .int) prog_7_method_11_code evd_95 = true := by decide +kernel
