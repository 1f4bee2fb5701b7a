/-! the check, methods 24 on -/
set_option maxRecDepth 100000 in
theorem ed_24 : e2_chk e2_MT "MeadowSigns$Hearsay" false (some .boolean) prog_3_method_3_code evd_24 = true := by decide +kernel
set_option maxRecDepth 100000 in
theorem ed_25 : e2_chk e2_MT "MeadowSigns$Hearsay" false (some .int) prog_3_method_4_code evd_25 = true := by decide +kernel
set_option maxRecDepth 100000 in
theorem ed_26 : e2_chk e2_MT "MeadowSigns$Hearsay" false (some .int) prog_3_method_5_code evd_26 = true := by decide +kernel
set_option maxRecDepth 100000 in
theorem ed_27 : e2_chk e2_MT "MeadowSigns$Hearsay" false (some .boolean) prog_3_method_6_code evd_27 = true := by decide +kernel
set_option maxRecDepth 100000 in
theorem ed_28 : e2_chk e2_MT "MeadowSigns$Hearsay" false (some .int) prog_3_method_7_code evd_28 = true := by decide +kernel
set_option maxRecDepth 100000 in
theorem ed_29 : e2_chk e2_MT "MeadowSigns$Hearsay" false (some .boolean) prog_3_method_8_code evd_29 = true := by decide +kernel
set_option maxRecDepth 100000 in
theorem ed_30 : e2_chk e2_MT "MeadowSigns$Hearsay" false (some .int) prog_3_method_9_code evd_30 = true := by decide +kernel
set_option maxRecDepth 100000 in
theorem ed_31 : e2_chk e2_MT "MeadowSigns$Hearsay" false (none) prog_3_method_10_code evd_31 = true := by decide +kernel
set_option maxRecDepth 100000 in
theorem ed_32 : e2_chk e2_MT "MeadowSigns$Hearsay" false (some .int) prog_3_method_11_code evd_32 = true := by decide +kernel
set_option maxRecDepth 100000 in
theorem ed_33 : e2_chk e2_MT "MeadowSigns$Hearsay" false (some .int) prog_3_method_12_code evd_33 = true := by decide +kernel
set_option maxRecDepth 100000 in
theorem ed_34 : e2_chk e2_MT "MeadowSigns$Hearsay" false (some .int) prog_3_method_13_code evd_34 = true := by decide +kernel
set_option maxRecDepth 100000 in
theorem ed_35 : e2_chk e2_MT "MeadowSigns$History" false (none) prog_4_method_3_code evd_35 = true := by decide +kernel
set_option maxRecDepth 100000 in
theorem ed_36 : e2_chk e2_MT "MeadowSigns$History" false (some .int) prog_4_method_4_code evd_36 = true := by decide +kernel
set_option maxRecDepth 100000 in
theorem ed_37 : e2_chk e2_MT "MeadowSigns$History" false (some .boolean) prog_4_method_5_code evd_37 = true := by decide +kernel
set_option maxRecDepth 100000 in
theorem ed_38 : e2_chk e2_MT "MeadowSigns$History" false (some .boolean) prog_4_method_6_code evd_38 = true := by decide +kernel
set_option maxRecDepth 100000 in
theorem ed_39 : e2_chk e2_MT "MeadowSigns$History" false (none) prog_4_method_7_code evd_39 = true := by decide +kernel
set_option maxRecDepth 100000 in
theorem ed_40 : e2_chk e2_MT "MeadowSigns$History" false (some .boolean) prog_4_method_8_code evd_40 = true := by decide +kernel
set_option maxRecDepth 100000 in
theorem ed_41 : e2_chk e2_MT "MeadowSigns$History" false (some .boolean) prog_4_method_9_code evd_41 = true := by decide +kernel
set_option maxRecDepth 100000 in
theorem ed_42 : e2_chk e2_MT "MeadowSigns$Parser" false (some .boolean) prog_5_method_2_code evd_42 = true := by decide +kernel
set_option maxRecDepth 100000 in
theorem ed_43 : e2_chk e2_MT "MeadowSigns$Parser" false (some .boolean) prog_5_method_3_code evd_43 = true := by decide +kernel
set_option maxRecDepth 100000 in
theorem ed_44 : e2_chk e2_MT "MeadowSigns$Parser" false (some .boolean) prog_5_method_4_code evd_44 = true := by decide +kernel
set_option maxRecDepth 100000 in
theorem ed_45 : e2_chk e2_MT "MeadowSigns$Parser" false (some .boolean) prog_5_method_5_code evd_45 = true := by decide +kernel
set_option maxRecDepth 100000 in
theorem ed_46 : e2_chk e2_MT "MeadowSigns$Parser" false (some .boolean) prog_5_method_6_code evd_46 = true := by decide +kernel
set_option maxRecDepth 100000 in
theorem ed_47 : e2_chk e2_MT "MeadowSigns$Parser" false (some .boolean) prog_5_method_7_code evd_47 = true := by decide +kernel
