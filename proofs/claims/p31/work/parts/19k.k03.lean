/-! the check, methods 48 on -/
set_option maxRecDepth 100000 in
theorem ed_48 : e2_chk e2_MT "MeadowSigns$Parser" false (some .int) prog_5_method_8_code evd_48 = true := by decide +kernel
set_option maxRecDepth 100000 in
theorem ed_49 : e2_chk e2_MT "MeadowSigns$Parser" false (some .boolean) prog_5_method_9_code evd_49 = true := by decide +kernel
set_option maxRecDepth 100000 in
theorem ed_50 : e2_chk e2_MT "MeadowSigns$Parser" false (some .boolean) prog_5_method_10_code evd_50 = true := by decide +kernel
set_option maxRecDepth 100000 in
theorem ed_51 : e2_chk e2_MT "MeadowSigns$Parser" false (some .boolean) prog_5_method_11_code evd_51 = true := by decide +kernel
set_option maxRecDepth 100000 in
theorem ed_52 : e2_chk e2_MT "MeadowSigns$Parser" false (some .boolean) prog_5_method_12_code evd_52 = true := by decide +kernel
set_option maxRecDepth 100000 in
theorem ed_53 : e2_chk e2_MT "MeadowSigns$Parser" false (some .boolean) prog_5_method_13_code evd_53 = true := by decide +kernel
set_option maxRecDepth 100000 in
theorem ed_54 : e2_chk e2_MT "MeadowSigns$Parser" false (some .boolean) prog_5_method_14_code evd_54 = true := by decide +kernel
set_option maxRecDepth 100000 in
theorem ed_55 : e2_chk e2_MT "MeadowSigns$Parser" false (some .boolean) prog_5_method_15_code evd_55 = true := by decide +kernel
set_option maxRecDepth 100000 in
theorem ed_56 : e2_chk e2_MT "MeadowSigns$Parser" false (some .boolean) prog_5_method_16_code evd_56 = true := by decide +kernel
set_option maxRecDepth 100000 in
theorem ed_57 : e2_chk e2_MT "MeadowSigns$Parser" false (some .boolean) prog_5_method_17_code evd_57 = true := by decide +kernel
set_option maxRecDepth 100000 in
theorem ed_58 : e2_chk e2_MT "MeadowSigns$Parser" false (some .boolean) prog_5_method_18_code evd_58 = true := by decide +kernel
set_option maxRecDepth 100000 in
theorem ed_59 : e2_chk e2_MT "MeadowSigns$Parser" false (some .boolean) prog_5_method_19_code evd_59 = true := by decide +kernel
set_option maxRecDepth 100000 in
theorem ed_60 : e2_chk e2_MT "MeadowSigns$Parser" false (some .int) prog_5_method_20_code evd_60 = true := by decide +kernel
set_option maxRecDepth 100000 in
theorem ed_61 : e2_chk e2_MT "MeadowSigns$Parser" false (some .boolean) prog_5_method_21_code evd_61 = true := by decide +kernel
set_option maxRecDepth 100000 in
theorem ed_62 : e2_chk e2_MT "MeadowSigns$Parser" false (some .boolean) prog_5_method_22_code evd_62 = true := by decide +kernel
set_option maxRecDepth 100000 in
theorem ed_63 : e2_chk e2_MT "MeadowSigns$Planner" false (none) prog_6_method_2_code evd_63 = true := by decide +kernel
set_option maxRecDepth 100000 in
theorem ed_64 : e2_chk e2_MT "MeadowSigns$Planner" false (none) prog_6_method_3_code evd_64 = true := by decide +kernel
set_option maxRecDepth 100000 in
theorem ed_65 : e2_chk e2_MT "MeadowSigns$Planner" false (some .int) prog_6_method_4_code evd_65 = true := by decide +kernel
set_option maxRecDepth 100000 in
theorem ed_66 : e2_chk e2_MT "MeadowSigns$Planner" false (none) prog_6_method_5_code evd_66 = true := by decide +kernel
set_option maxRecDepth 100000 in
theorem ed_67 : e2_chk e2_MT "MeadowSigns$Planner" false (some .boolean) prog_6_method_6_code evd_67 = true := by decide +kernel
set_option maxRecDepth 100000 in
theorem ed_68 : e2_chk e2_MT "MeadowSigns$Planner" false (some .int) prog_6_method_7_code evd_68 = true := by decide +kernel
set_option maxRecDepth 100000 in
theorem ed_69 : e2_chk e2_MT "MeadowSigns$Planner" false (none) prog_6_method_8_code evd_69 = true := by decide +kernel
set_option maxRecDepth 100000 in
theorem ed_70 : e2_chk e2_MT "MeadowSigns$Planner" false (some .boolean) prog_6_method_9_code evd_70 = true := by decide +kernel
set_option maxRecDepth 100000 in
theorem ed_71 : e2_chk e2_MT "MeadowSigns$Planner" false (some .int) prog_6_method_10_code evd_71 = true := by decide +kernel
