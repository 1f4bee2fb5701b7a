/-! the check, methods 0 on -/
set_option maxRecDepth 100000 in
theorem ek_0 : ev_chk ev_MT "MeadowSigns$Formula" true (none) prog_2_method_1_code evc_0 = true := by decide +kernel
set_option maxRecDepth 100000 in
theorem ex_0 : evx_0 = evc_0.map ev_x := rfl
theorem em_0 : ev_P 0 (⟨"MeadowSigns$Formula", "<init>", "(I)V"⟩, prog_2_method_1_code, 2, none) := ⟨_, _, rfl, (show ev_tget 8 ev_XT 0 id = (2, evx_0) from rfl).trans (congrArg (Prod.mk 2) ex_0), ev_chk_ok _ ek_0, by decide +kernel⟩
set_option maxRecDepth 100000 in
theorem ek_1 : ev_chk ev_MT "MeadowSigns$Hearsay" true (none) prog_3_method_1_code evc_1 = true := by decide +kernel
set_option maxRecDepth 100000 in
theorem ex_1 : evx_1 = evc_1.map ev_x := rfl
theorem em_1 : ev_P 1 (⟨"MeadowSigns$Hearsay", "<init>", "()V"⟩, prog_3_method_1_code, 1, none) := ⟨_, _, rfl, (show ev_tget 8 ev_XT 1 id = (1, evx_1) from rfl).trans (congrArg (Prod.mk 1) ex_1), ev_chk_ok _ ek_1, by decide +kernel⟩
set_option maxRecDepth 100000 in
theorem ek_2 : ev_chk ev_MT "MeadowSigns$History" true (none) prog_4_method_1_code evc_2 = true := by decide +kernel
set_option maxRecDepth 100000 in
theorem ex_2 : evx_2 = evc_2.map ev_x := rfl
theorem em_2 : ev_P 2 (⟨"MeadowSigns$History", "<init>", "()V"⟩, prog_4_method_1_code, 1, none) := ⟨_, _, rfl, (show ev_tget 8 ev_XT 2 id = (1, evx_2) from rfl).trans (congrArg (Prod.mk 1) ex_2), ev_chk_ok _ ek_2, by decide +kernel⟩
set_option maxRecDepth 100000 in
theorem ek_3 : ev_chk ev_MT "MeadowSigns$History" false (none) prog_4_method_2_code evc_3 = true := by decide +kernel
set_option maxRecDepth 100000 in
theorem ex_3 : evx_3 = evc_3.map ev_x := rfl
theorem em_3 : ev_P 3 (⟨"MeadowSigns$History", "forget", "(LMeadowSigns$State;)V"⟩, prog_4_method_2_code, 2, none) := ⟨_, _, rfl, (show ev_tget 8 ev_XT 3 id = (2, evx_3) from rfl).trans (congrArg (Prod.mk 2) ex_3), ev_chk_ok _ ek_3, by decide +kernel⟩
set_option maxRecDepth 100000 in
theorem ek_4 : ev_chk ev_MT "MeadowSigns$Parser" true (none) prog_5_method_1_code evc_4 = true := by decide +kernel
set_option maxRecDepth 100000 in
theorem ex_4 : evx_4 = evc_4.map ev_x := rfl
theorem em_4 : ev_P 4 (⟨"MeadowSigns$Parser", "<init>", "(LMeadowSigns$Told;)V"⟩, prog_5_method_1_code, 2, none) := ⟨_, _, rfl, (show ev_tget 8 ev_XT 4 id = (2, evx_4) from rfl).trans (congrArg (Prod.mk 2) ex_4), ev_chk_ok _ ek_4, by decide +kernel⟩
set_option maxRecDepth 100000 in
theorem ek_5 : ev_chk ev_MT "MeadowSigns$Planner" true (none) prog_6_method_1_code evc_5 = true := by decide +kernel
set_option maxRecDepth 100000 in
theorem ex_5 : evx_5 = evc_5.map ev_x := rfl
theorem em_5 : ev_P 5 (⟨"MeadowSigns$Planner", "<init>", "(LMeadowSigns$Told;)V"⟩, prog_6_method_1_code, 2, none) := ⟨_, _, rfl, (show ev_tget 8 ev_XT 5 id = (2, evx_5) from rfl).trans (congrArg (Prod.mk 2) ex_5), ev_chk_ok _ ek_5, by decide +kernel⟩
set_option maxRecDepth 100000 in
theorem ek_6 : ev_chk ev_MT "MeadowSigns$Reader" true (none) prog_7_method_1_code evc_6 = true := by decide +kernel
set_option maxRecDepth 100000 in
theorem ex_6 : evx_6 = evc_6.map ev_x := rfl
theorem em_6 : ev_P 6 (⟨"MeadowSigns$Reader", "<init>", "(LMeadowSigns$Told;)V"⟩, prog_7_method_1_code, 2, none) := ⟨_, _, rfl, (show ev_tget 8 ev_XT 6 id = (2, evx_6) from rfl).trans (congrArg (Prod.mk 2) ex_6), ev_chk_ok _ ek_6, by decide +kernel⟩
set_option maxRecDepth 100000 in
theorem ek_7 : ev_chk ev_MT "MeadowSigns$State" true (none) prog_8_method_1_code evc_7 = true := by decide +kernel
set_option maxRecDepth 100000 in
theorem ex_7 : evx_7 = evc_7.map ev_x := rfl
theorem em_7 : ev_P 7 (⟨"MeadowSigns$State", "<init>", "()V"⟩, prog_8_method_1_code, 1, none) := ⟨_, _, rfl, (show ev_tget 8 ev_XT 7 id = (1, evx_7) from rfl).trans (congrArg (Prod.mk 1) ex_7), ev_chk_ok _ ek_7, by decide +kernel⟩
set_option maxRecDepth 100000 in
theorem ek_8 : ev_chk ev_MT "MeadowSigns$State" false (none) prog_8_method_2_code evc_8 = true := by decide +kernel
set_option maxRecDepth 100000 in
theorem ex_8 : evx_8 = evc_8.map ev_x := rfl
theorem em_8 : ev_P 8 (⟨"MeadowSigns$State", "begin", "(LMeadowSigns$Told;)V"⟩, prog_8_method_2_code, 3, none) := ⟨_, _, rfl, (show ev_tget 8 ev_XT 8 id = (3, evx_8) from rfl).trans (congrArg (Prod.mk 3) ex_8), ev_chk_ok _ ek_8, by decide +kernel⟩
set_option maxRecDepth 100000 in
theorem ek_9 : ev_chk ev_MT "MeadowSigns$State" false (none) prog_8_method_4_code evc_9 = true := by decide +kernel
set_option maxRecDepth 100000 in
theorem ex_9 : evx_9 = evc_9.map ev_x := rfl
theorem em_9 : ev_P 9 (⟨"MeadowSigns$State", "saveTo", "([II)V"⟩, prog_8_method_4_code, 4, none) := ⟨_, _, rfl, (show ev_tget 8 ev_XT 9 id = (4, evx_9) from rfl).trans (congrArg (Prod.mk 4) ex_9), ev_chk_ok _ ek_9, by decide +kernel⟩
set_option maxRecDepth 100000 in
theorem ek_10 : ev_chk ev_MT "MeadowSigns$Tape" true (none) prog_9_method_1_code evc_10 = true := by decide +kernel
set_option maxRecDepth 100000 in
theorem ex_10 : evx_10 = evc_10.map ev_x := rfl
theorem em_10 : ev_P 10 (⟨"MeadowSigns$Tape", "<init>", "()V"⟩, prog_9_method_1_code, 1, none) := ⟨_, _, rfl, (show ev_tget 8 ev_XT 10 id = (1, evx_10) from rfl).trans (congrArg (Prod.mk 1) ex_10), ev_chk_ok _ ek_10, by decide +kernel⟩
set_option maxRecDepth 100000 in
theorem ek_11 : ev_chk ev_MT "MeadowSigns$Told" true (none) prog_10_method_1_code evc_11 = true := by decide +kernel
set_option maxRecDepth 100000 in
theorem ex_11 : evx_11 = evc_11.map ev_x := rfl
theorem em_11 : ev_P 11 (⟨"MeadowSigns$Told", "<init>", "()V"⟩, prog_10_method_1_code, 1, none) := ⟨_, _, rfl, (show ev_tget 8 ev_XT 11 id = (1, evx_11) from rfl).trans (congrArg (Prod.mk 1) ex_11), ev_chk_ok _ ek_11, by decide +kernel⟩
set_option maxRecDepth 100000 in
theorem ek_12 : ev_chk ev_MT "MeadowSigns" true (none) prog_1_method_1_code evc_12 = true := by decide +kernel
set_option maxRecDepth 100000 in
theorem ex_12 : evx_12 = evc_12.map ev_x := rfl
theorem em_12 : ev_P 12 (⟨"MeadowSigns", "<init>", "()V"⟩, prog_1_method_1_code, 1, none) := ⟨_, _, rfl, (show ev_tget 8 ev_XT 12 id = (1, evx_12) from rfl).trans (congrArg (Prod.mk 1) ex_12), ev_chk_ok _ ek_12, by decide +kernel⟩
set_option maxRecDepth 100000 in
theorem ek_13 : ev_chk ev_MT "MeadowSignsModel" true (none) prog_12_method_1_code evc_13 = true := by decide +kernel
set_option maxRecDepth 100000 in
theorem ex_13 : evx_13 = evc_13.map ev_x := rfl
theorem em_13 : ev_P 13 (⟨"MeadowSignsModel", "<init>", "()V"⟩, prog_12_method_1_code, 1, none) := ⟨_, _, rfl, (show ev_tget 8 ev_XT 13 id = (1, evx_13) from rfl).trans (congrArg (Prod.mk 1) ex_13), ev_chk_ok _ ek_13, by decide +kernel⟩
set_option maxRecDepth 100000 in
theorem ek_14 : ev_chk ev_MT "MeadowSignsModel" false (none) prog_12_method_17_code evc_14 = true := by decide +kernel
set_option maxRecDepth 100000 in
theorem ex_14 : evx_14 = evc_14.map ev_x := rfl
theorem em_14 : ev_P 14 (⟨"MeadowSignsModel", "clearBank", "()V"⟩, prog_12_method_17_code, 2, none) := ⟨_, _, rfl, (show ev_tget 8 ev_XT 14 id = (2, evx_14) from rfl).trans (congrArg (Prod.mk 2) ex_14), ev_chk_ok _ ek_14, by decide +kernel⟩
set_option maxRecDepth 100000 in
theorem ek_15 : ev_chk ev_MT "MeadowSignsModel" false (none) prog_12_method_57_code evc_15 = true := by decide +kernel
set_option maxRecDepth 100000 in
theorem ex_15 : evx_15 = evc_15.map ev_x := rfl
theorem em_15 : ev_P 15 (⟨"MeadowSignsModel", "startAnew", "()V"⟩, prog_12_method_57_code, 2, none) := ⟨_, _, rfl, (show ev_tget 8 ev_XT 15 id = (2, evx_15) from rfl).trans (congrArg (Prod.mk 2) ex_15), ev_chk_ok _ ek_15, by decide +kernel⟩
