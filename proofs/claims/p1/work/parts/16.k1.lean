/-! the check, methods 0 on -/
set_option maxRecDepth 100000 in
theorem ek_0 : ev_chk ev_MT "MeadowSigns$Formula" true (none) prog_2_method_1_code evc_0 = true := by decide +kernel
set_option maxRecDepth 100000 in
theorem ex_0 : evx_0 = evc_0.map ev_x := rfl
theorem em_0 : ev_P 0 (⟨"MeadowSigns$Formula", "<init>", "(I)V"⟩, prog_2_method_1_code, 2, none) := ⟨_, _, rfl, (show ev_tget 8 ev_XT 0 id = (2, evx_0) from rfl).trans (congrArg (Prod.mk 2) ex_0), ev_chk_ok _ ek_0, by decide +kernel⟩
set_option maxRecDepth 100000 in
theorem ek_1 : ev_chk ev_MT "MeadowSigns$Formula" false (none) prog_2_method_2_code evc_1 = true := by decide +kernel
set_option maxRecDepth 100000 in
theorem ex_1 : evx_1 = evc_1.map ev_x := rfl
theorem em_1 : ev_P 1 (⟨"MeadowSigns$Formula", "clear", "()V"⟩, prog_2_method_2_code, 1, none) := ⟨_, _, rfl, (show ev_tget 8 ev_XT 1 id = (1, evx_1) from rfl).trans (congrArg (Prod.mk 1) ex_1), ev_chk_ok _ ek_1, by decide +kernel⟩
set_option maxRecDepth 100000 in
theorem ek_2 : ev_chk ev_MT "MeadowSigns$Hearsay" true (none) prog_3_method_1_code evc_2 = true := by decide +kernel
set_option maxRecDepth 100000 in
theorem ex_2 : evx_2 = evc_2.map ev_x := rfl
theorem em_2 : ev_P 2 (⟨"MeadowSigns$Hearsay", "<init>", "()V"⟩, prog_3_method_1_code, 1, none) := ⟨_, _, rfl, (show ev_tget 8 ev_XT 2 id = (1, evx_2) from rfl).trans (congrArg (Prod.mk 1) ex_2), ev_chk_ok _ ek_2, by decide +kernel⟩
set_option maxRecDepth 100000 in
theorem ek_3 : ev_chk ev_MT "MeadowSigns$Hearsay" false (none) prog_3_method_2_code evc_3 = true := by decide +kernel
set_option maxRecDepth 100000 in
theorem ex_3 : evx_3 = evc_3.map ev_x := rfl
theorem em_3 : ev_P 3 (⟨"MeadowSigns$Hearsay", "begin", "(I)V"⟩, prog_3_method_2_code, 2, none) := ⟨_, _, rfl, (show ev_tget 8 ev_XT 3 id = (2, evx_3) from rfl).trans (congrArg (Prod.mk 2) ex_3), ev_chk_ok _ ek_3, by decide +kernel⟩
set_option maxRecDepth 100000 in
theorem ek_4 : ev_chk ev_MT "MeadowSigns$Hearsay" false (some .boolean) prog_3_method_3_code evc_4 = true := by decide +kernel
set_option maxRecDepth 100000 in
theorem ex_4 : evx_4 = evc_4.map ev_x := rfl
theorem em_4 : ev_P 4 (⟨"MeadowSigns$Hearsay", "isOne", "(I)Z"⟩, prog_3_method_3_code, 2, some .boolean) := ⟨_, _, rfl, (show ev_tget 8 ev_XT 4 id = (2, evx_4) from rfl).trans (congrArg (Prod.mk 2) ex_4), ev_chk_ok _ ek_4, by decide +kernel⟩
set_option maxRecDepth 100000 in
theorem ek_5 : ev_chk ev_MT "MeadowSigns$Hearsay" false (some .int) prog_3_method_5_code evc_5 = true := by decide +kernel
set_option maxRecDepth 100000 in
theorem ex_5 : evx_5 = evc_5.map ev_x := rfl
theorem em_5 : ev_P 5 (⟨"MeadowSigns$Hearsay", "hear", "(IIIZ)I"⟩, prog_3_method_5_code, 5, some .int) := ⟨_, _, rfl, (show ev_tget 8 ev_XT 5 id = (5, evx_5) from rfl).trans (congrArg (Prod.mk 5) ex_5), ev_chk_ok _ ek_5, by decide +kernel⟩
set_option maxRecDepth 100000 in
theorem ek_6 : ev_chk ev_MT "MeadowSigns$Hearsay" false (some .boolean) prog_3_method_6_code evc_6 = true := by decide +kernel
set_option maxRecDepth 100000 in
theorem ex_6 : evx_6 = evc_6.map ev_x := rfl
theorem em_6 : ev_P 6 (⟨"MeadowSigns$Hearsay", "takeBack", "(I)Z"⟩, prog_3_method_6_code, 2, some .boolean) := ⟨_, _, rfl, (show ev_tget 8 ev_XT 6 id = (2, evx_6) from rfl).trans (congrArg (Prod.mk 2) ex_6), ev_chk_ok _ ek_6, by decide +kernel⟩
set_option maxRecDepth 100000 in
theorem ek_7 : ev_chk ev_MT "MeadowSigns$Hearsay" false (some .int) prog_3_method_7_code evc_7 = true := by decide +kernel
set_option maxRecDepth 100000 in
theorem ex_7 : evx_7 = evc_7.map ev_x := rfl
theorem em_7 : ev_P 7 (⟨"MeadowSigns$Hearsay", "goOn", "(I)I"⟩, prog_3_method_7_code, 2, some .int) := ⟨_, _, rfl, (show ev_tget 8 ev_XT 7 id = (2, evx_7) from rfl).trans (congrArg (Prod.mk 2) ex_7), ev_chk_ok _ ek_7, by decide +kernel⟩
set_option maxRecDepth 100000 in
theorem ek_8 : ev_chk ev_MT "MeadowSigns$Hearsay" false (some .int) prog_3_method_9_code evc_8 = true := by decide +kernel
set_option maxRecDepth 100000 in
theorem ex_8 : evx_8 = evc_8.map ev_x := rfl
theorem em_8 : ev_P 8 (⟨"MeadowSigns$Hearsay", "grammars", "(II)I"⟩, prog_3_method_9_code, 7, some .int) := ⟨_, _, rfl, (show ev_tget 8 ev_XT 8 id = (7, evx_8) from rfl).trans (congrArg (Prod.mk 7) ex_8), ev_chk_ok _ ek_8, by decide +kernel⟩
set_option maxRecDepth 100000 in
theorem ek_9 : ev_chk ev_MT "MeadowSigns$Hearsay" false (some .int) prog_3_method_11_code evc_9 = true := by decide +kernel
set_option maxRecDepth 100000 in
theorem ex_9 : evx_9 = evc_9.map ev_x := rfl
theorem em_9 : ev_P 9 (⟨"MeadowSigns$Hearsay", "choicesFrom", "(II)I"⟩, prog_3_method_11_code, 6, some .int) := ⟨_, _, rfl, (show ev_tget 8 ev_XT 9 id = (6, evx_9) from rfl).trans (congrArg (Prod.mk 6) ex_9), ev_chk_ok _ ek_9, by decide +kernel⟩
set_option maxRecDepth 100000 in
theorem ek_10 : ev_chk ev_MT "MeadowSigns$Hearsay" false (some .int) prog_3_method_12_code evc_10 = true := by decide +kernel
set_option maxRecDepth 100000 in
theorem ex_10 : evx_10 = evc_10.map ev_x := rfl
theorem em_10 : ev_P 10 (⟨"MeadowSigns$Hearsay", "certainty", "(III)I"⟩, prog_3_method_12_code, 6, some .int) := ⟨_, _, rfl, (show ev_tget 8 ev_XT 10 id = (6, evx_10) from rfl).trans (congrArg (Prod.mk 6) ex_10), ev_chk_ok _ ek_10, by decide +kernel⟩
set_option maxRecDepth 100000 in
theorem ek_11 : ev_chk ev_MT "MeadowSigns$Hearsay" false (some .int) prog_3_method_13_code evc_11 = true := by decide +kernel
set_option maxRecDepth 100000 in
theorem ex_11 : evx_11 = evc_11.map ev_x := rfl
theorem em_11 : ev_P 11 (⟨"MeadowSigns$Hearsay", "question", "(II)I"⟩, prog_3_method_13_code, 10, some .int) := ⟨_, _, rfl, (show ev_tget 8 ev_XT 11 id = (10, evx_11) from rfl).trans (congrArg (Prod.mk 10) ex_11), ev_chk_ok _ ek_11, by decide +kernel⟩
set_option maxRecDepth 100000 in
theorem ek_12 : ev_chk ev_MT "MeadowSigns$History" true (none) prog_4_method_1_code evc_12 = true := by decide +kernel
set_option maxRecDepth 100000 in
theorem ex_12 : evx_12 = evc_12.map ev_x := rfl
theorem em_12 : ev_P 12 (⟨"MeadowSigns$History", "<init>", "()V"⟩, prog_4_method_1_code, 1, none) := ⟨_, _, rfl, (show ev_tget 8 ev_XT 12 id = (1, evx_12) from rfl).trans (congrArg (Prod.mk 1) ex_12), ev_chk_ok _ ek_12, by decide +kernel⟩
set_option maxRecDepth 100000 in
theorem ek_13 : ev_chk ev_MT "MeadowSigns$History" false (none) prog_4_method_2_code evc_13 = true := by decide +kernel
set_option maxRecDepth 100000 in
theorem ex_13 : evx_13 = evc_13.map ev_x := rfl
theorem em_13 : ev_P 13 (⟨"MeadowSigns$History", "forget", "(LMeadowSigns$State;)V"⟩, prog_4_method_2_code, 2, none) := ⟨_, _, rfl, (show ev_tget 8 ev_XT 13 id = (2, evx_13) from rfl).trans (congrArg (Prod.mk 2) ex_13), ev_chk_ok _ ek_13, by decide +kernel⟩
set_option maxRecDepth 100000 in
theorem ek_14 : ev_chk ev_MT "MeadowSigns$History" false (none) prog_4_method_3_code evc_14 = true := by decide +kernel
set_option maxRecDepth 100000 in
theorem ex_14 : evx_14 = evc_14.map ev_x := rfl
theorem em_14 : ev_P 14 (⟨"MeadowSigns$History", "keep", "(LMeadowSigns$State;)V"⟩, prog_4_method_3_code, 2, none) := ⟨_, _, rfl, (show ev_tget 8 ev_XT 14 id = (2, evx_14) from rfl).trans (congrArg (Prod.mk 2) ex_14), ev_chk_ok _ ek_14, by decide +kernel⟩
set_option maxRecDepth 100000 in
theorem ek_15 : ev_chk ev_MT "MeadowSigns$History" false (some .int) prog_4_method_4_code evc_15 = true := by decide +kernel
set_option maxRecDepth 100000 in
theorem ex_15 : evx_15 = evc_15.map ev_x := rfl
theorem em_15 : ev_P 15 (⟨"MeadowSigns$History", "slot", "()I"⟩, prog_4_method_4_code, 1, some .int) := ⟨_, _, rfl, (show ev_tget 8 ev_XT 15 id = (1, evx_15) from rfl).trans (congrArg (Prod.mk 1) ex_15), ev_chk_ok _ ek_15, by decide +kernel⟩
set_option maxRecDepth 100000 in
theorem ek_16 : ev_chk ev_MT "MeadowSigns$History" false (some .boolean) prog_4_method_5_code evc_16 = true := by decide +kernel
set_option maxRecDepth 100000 in
theorem ex_16 : evx_16 = evc_16.map ev_x := rfl
theorem em_16 : ev_P 16 (⟨"MeadowSigns$History", "stepBack", "(LMeadowSigns$State;)Z"⟩, prog_4_method_5_code, 2, some .boolean) := ⟨_, _, rfl, (show ev_tget 8 ev_XT 16 id = (2, evx_16) from rfl).trans (congrArg (Prod.mk 2) ex_16), ev_chk_ok _ ek_16, by decide +kernel⟩
set_option maxRecDepth 100000 in
theorem ek_17 : ev_chk ev_MT "MeadowSigns$History" false (some .boolean) prog_4_method_6_code evc_17 = true := by decide +kernel
set_option maxRecDepth 100000 in
theorem ex_17 : evx_17 = evc_17.map ev_x := rfl
theorem em_17 : ev_P 17 (⟨"MeadowSigns$History", "stepOn", "(LMeadowSigns$State;)Z"⟩, prog_4_method_6_code, 2, some .boolean) := ⟨_, _, rfl, (show ev_tget 8 ev_XT 17 id = (2, evx_17) from rfl).trans (congrArg (Prod.mk 2) ex_17), ev_chk_ok _ ek_17, by decide +kernel⟩
set_option maxRecDepth 100000 in
theorem ek_18 : ev_chk ev_MT "MeadowSigns$History" false (none) prog_4_method_7_code evc_18 = true := by decide +kernel
set_option maxRecDepth 100000 in
theorem ex_18 : evx_18 = evc_18.map ev_x := rfl
theorem em_18 : ev_P 18 (⟨"MeadowSigns$History", "emptyBoxes", "()V"⟩, prog_4_method_7_code, 1, none) := ⟨_, _, rfl, (show ev_tget 8 ev_XT 18 id = (1, evx_18) from rfl).trans (congrArg (Prod.mk 1) ex_18), ev_chk_ok _ ek_18, by decide +kernel⟩
set_option maxRecDepth 100000 in
theorem ek_19 : ev_chk ev_MT "MeadowSigns$History" false (some .boolean) prog_4_method_8_code evc_19 = true := by decide +kernel
set_option maxRecDepth 100000 in
theorem ex_19 : evx_19 = evc_19.map ev_x := rfl
theorem em_19 : ev_P 19 (⟨"MeadowSigns$History", "fillBox", "(LMeadowSigns$State;I)Z"⟩, prog_4_method_8_code, 3, some .boolean) := ⟨_, _, rfl, (show ev_tget 8 ev_XT 19 id = (3, evx_19) from rfl).trans (congrArg (Prod.mk 3) ex_19), ev_chk_ok _ ek_19, by decide +kernel⟩
set_option maxRecDepth 100000 in
theorem ek_20 : ev_chk ev_MT "MeadowSigns$History" false (some .boolean) prog_4_method_9_code evc_20 = true := by decide +kernel
set_option maxRecDepth 100000 in
theorem ex_20 : evx_20 = evc_20.map ev_x := rfl
theorem em_20 : ev_P 20 (⟨"MeadowSigns$History", "takeBox", "(LMeadowSigns$State;I)Z"⟩, prog_4_method_9_code, 3, some .boolean) := ⟨_, _, rfl, (show ev_tget 8 ev_XT 20 id = (3, evx_20) from rfl).trans (congrArg (Prod.mk 3) ex_20), ev_chk_ok _ ek_20, by decide +kernel⟩
set_option maxRecDepth 100000 in
theorem ek_21 : ev_chk ev_MT "MeadowSigns$Parser" true (none) prog_5_method_1_code evc_21 = true := by decide +kernel
set_option maxRecDepth 100000 in
theorem ex_21 : evx_21 = evc_21.map ev_x := rfl
theorem em_21 : ev_P 21 (⟨"MeadowSigns$Parser", "<init>", "(LMeadowSigns$Told;)V"⟩, prog_5_method_1_code, 2, none) := ⟨_, _, rfl, (show ev_tget 8 ev_XT 21 id = (2, evx_21) from rfl).trans (congrArg (Prod.mk 2) ex_21), ev_chk_ok _ ek_21, by decide +kernel⟩
set_option maxRecDepth 100000 in
theorem ek_22 : ev_chk ev_MT "MeadowSigns$Parser" false (some .boolean) prog_5_method_2_code evc_22 = true := by decide +kernel
set_option maxRecDepth 100000 in
theorem ex_22 : evx_22 = evc_22.map ev_x := rfl
theorem em_22 : ev_P 22 (⟨"MeadowSigns$Parser", "parse", "(LMeadowSigns$Told;)Z"⟩, prog_5_method_2_code, 3, some .boolean) := ⟨_, _, rfl, (show ev_tget 8 ev_XT 22 id = (3, evx_22) from rfl).trans (congrArg (Prod.mk 3) ex_22), ev_chk_ok _ ek_22, by decide +kernel⟩
set_option maxRecDepth 100000 in
theorem ek_23 : ev_chk ev_MT "MeadowSigns$Planner" true (none) prog_6_method_1_code evc_23 = true := by decide +kernel
set_option maxRecDepth 100000 in
theorem ex_23 : evx_23 = evc_23.map ev_x := rfl
theorem em_23 : ev_P 23 (⟨"MeadowSigns$Planner", "<init>", "(LMeadowSigns$Told;)V"⟩, prog_6_method_1_code, 2, none) := ⟨_, _, rfl, (show ev_tget 8 ev_XT 23 id = (2, evx_23) from rfl).trans (congrArg (Prod.mk 2) ex_23), ev_chk_ok _ ek_23, by decide +kernel⟩
set_option maxRecDepth 100000 in
theorem ek_24 : ev_chk ev_MT "MeadowSigns$Planner" false (none) prog_6_method_2_code evc_24 = true := by decide +kernel
set_option maxRecDepth 100000 in
theorem ex_24 : evx_24 = evc_24.map ev_x := rfl
theorem em_24 : ev_P 24 (⟨"MeadowSigns$Planner", "clear", "()V"⟩, prog_6_method_2_code, 1, none) := ⟨_, _, rfl, (show ev_tget 8 ev_XT 24 id = (1, evx_24) from rfl).trans (congrArg (Prod.mk 1) ex_24), ev_chk_ok _ ek_24, by decide +kernel⟩
set_option maxRecDepth 100000 in
theorem ek_25 : ev_chk ev_MT "MeadowSigns$Planner" false (none) prog_6_method_3_code evc_25 = true := by decide +kernel
set_option maxRecDepth 100000 in
theorem ex_25 : evx_25 = evc_25.map ev_x := rfl
theorem em_25 : ev_P 25 (⟨"MeadowSigns$Planner", "lay", "(I)V"⟩, prog_6_method_3_code, 2, none) := ⟨_, _, rfl, (show ev_tget 8 ev_XT 25 id = (2, evx_25) from rfl).trans (congrArg (Prod.mk 2) ex_25), ev_chk_ok _ ek_25, by decide +kernel⟩
set_option maxRecDepth 100000 in
theorem ek_26 : ev_chk ev_MT "MeadowSigns$Planner" false (some .int) prog_6_method_4_code evc_26 = true := by decide +kernel
set_option maxRecDepth 100000 in
theorem ex_26 : evx_26 = evc_26.map ev_x := rfl
theorem em_26 : ev_P 26 (⟨"MeadowSigns$Planner", "lyingAt", "(I)I"⟩, prog_6_method_4_code, 2, some .int) := ⟨_, _, rfl, (show ev_tget 8 ev_XT 26 id = (2, evx_26) from rfl).trans (congrArg (Prod.mk 2) ex_26), ev_chk_ok _ ek_26, by decide +kernel⟩
set_option maxRecDepth 100000 in
theorem ek_27 : ev_chk ev_MT "MeadowSigns$Planner" false (none) prog_6_method_5_code evc_27 = true := by decide +kernel
set_option maxRecDepth 100000 in
theorem ex_27 : evx_27 = evc_27.map ev_x := rfl
theorem em_27 : ev_P 27 (⟨"MeadowSigns$Planner", "begin", "(LMeadowSigns$Told;LMeadowSigns$State;)V"⟩, prog_6_method_5_code, 3, none) := ⟨_, _, rfl, (show ev_tget 8 ev_XT 27 id = (3, evx_27) from rfl).trans (congrArg (Prod.mk 3) ex_27), ev_chk_ok _ ek_27, by decide +kernel⟩
set_option maxRecDepth 100000 in
theorem ek_28 : ev_chk ev_MT "MeadowSigns$Planner" false (some .boolean) prog_6_method_6_code evc_28 = true := by decide +kernel
set_option maxRecDepth 100000 in
theorem ex_28 : evx_28 = evc_28.map ev_x := rfl
theorem em_28 : ev_P 28 (⟨"MeadowSigns$Planner", "harms", "(I)Z"⟩, prog_6_method_6_code, 2, some .boolean) := ⟨_, _, rfl, (show ev_tget 8 ev_XT 28 id = (2, evx_28) from rfl).trans (congrArg (Prod.mk 2) ex_28), ev_chk_ok _ ek_28, by decide +kernel⟩
set_option maxRecDepth 100000 in
theorem ek_29 : ev_chk ev_MT "MeadowSigns$Planner" false (some .boolean) prog_6_method_9_code evc_29 = true := by decide +kernel
set_option maxRecDepth 100000 in
theorem ex_29 : evx_29 = evc_29.map ev_x := rfl
theorem em_29 : ev_P 29 (⟨"MeadowSigns$Planner", "wishForOneReading", "()Z"⟩, prog_6_method_9_code, 2, some .boolean) := ⟨_, _, rfl, (show ev_tget 8 ev_XT 29 id = (2, evx_29) from rfl).trans (congrArg (Prod.mk 2) ex_29), ev_chk_ok _ ek_29, by decide +kernel⟩
set_option maxRecDepth 100000 in
theorem ek_30 : ev_chk ev_MT "MeadowSigns$Planner" false (some .int) prog_6_method_10_code evc_30 = true := by decide +kernel
set_option maxRecDepth 100000 in
theorem ex_30 : evx_30 = evc_30.map ev_x := rfl
theorem em_30 : ev_P 30 (⟨"MeadowSigns$Planner", "fewestChanges", "()I"⟩, prog_6_method_10_code, 2, some .int) := ⟨_, _, rfl, (show ev_tget 8 ev_XT 30 id = (2, evx_30) from rfl).trans (congrArg (Prod.mk 2) ex_30), ev_chk_ok _ ek_30, by decide +kernel⟩
set_option maxRecDepth 100000 in
theorem ek_31 : ev_chk ev_MT "MeadowSigns$Planner" false (some .boolean) prog_6_method_11_code evc_31 = true := by decide +kernel
set_option maxRecDepth 100000 in
theorem ex_31 : evx_31 = evc_31.map ev_x := rfl
theorem em_31 : ev_P 31 (⟨"MeadowSigns$Planner", "changeFrom", "(III)Z"⟩, prog_6_method_11_code, 6, some .boolean) := ⟨_, _, rfl, (show ev_tget 8 ev_XT 31 id = (6, evx_31) from rfl).trans (congrArg (Prod.mk 6) ex_31), ev_chk_ok _ ek_31, by decide +kernel⟩
