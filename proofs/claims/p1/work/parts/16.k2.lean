/-! the check, methods 32 on -/
set_option maxRecDepth 100000 in
theorem ek_32 : ev_chk ev_MT "MeadowSigns$Planner" false (some .boolean) prog_6_method_12_code evc_32 = true := by decide +kernel
set_option maxRecDepth 100000 in
theorem ex_32 : evx_32 = evc_32.map ev_x := rfl
theorem em_32 : ev_P 32 (⟨"MeadowSigns$Planner", "meetsGoal", "(I)Z"⟩, prog_6_method_12_code, 3, some .boolean) := ⟨_, _, rfl, (show ev_tget 8 ev_XT 32 id = (3, evx_32) from rfl).trans (congrArg (Prod.mk 3) ex_32), ev_chk_ok _ ek_32, by decide +kernel⟩
set_option maxRecDepth 100000 in
theorem ek_33 : ev_chk ev_MT "MeadowSigns$Planner" false (some .boolean) prog_6_method_13_code evc_33 = true := by decide +kernel
set_option maxRecDepth 100000 in
theorem ex_33 : evx_33 = evc_33.map ev_x := rfl
theorem em_33 : ev_P 33 (⟨"MeadowSigns$Planner", "hasWantedSigns", "()Z"⟩, prog_6_method_13_code, 2, some .boolean) := ⟨_, _, rfl, (show ev_tget 8 ev_XT 33 id = (2, evx_33) from rfl).trans (congrArg (Prod.mk 2) ex_33), ev_chk_ok _ ek_33, by decide +kernel⟩
set_option maxRecDepth 100000 in
theorem ek_34 : ev_chk ev_MT "MeadowSigns$Planner" false (some .int) prog_6_method_14_code evc_34 = true := by decide +kernel
set_option maxRecDepth 100000 in
theorem ex_34 : evx_34 = evc_34.map ev_x := rfl
theorem em_34 : ev_P 34 (⟨"MeadowSigns$Planner", "countOrders", "(I)I"⟩, prog_6_method_14_code, 5, some .int) := ⟨_, _, rfl, (show ev_tget 8 ev_XT 34 id = (5, evx_34) from rfl).trans (congrArg (Prod.mk 5) ex_34), ev_chk_ok _ ek_34, by decide +kernel⟩
set_option maxRecDepth 100000 in
theorem ek_35 : ev_chk ev_MT "MeadowSigns$Planner" false (some .int) prog_6_method_15_code evc_35 = true := by decide +kernel
set_option maxRecDepth 100000 in
theorem ex_35 : evx_35 = evc_35.map ev_x := rfl
theorem em_35 : ev_P 35 (⟨"MeadowSigns$Planner", "listMembers", "(I)I"⟩, prog_6_method_15_code, 4, some .int) := ⟨_, _, rfl, (show ev_tget 8 ev_XT 35 id = (4, evx_35) from rfl).trans (congrArg (Prod.mk 4) ex_35), ev_chk_ok _ ek_35, by decide +kernel⟩
set_option maxRecDepth 100000 in
theorem ek_36 : ev_chk ev_MT "MeadowSigns$Planner" false (some .int) prog_6_method_16_code evc_36 = true := by decide +kernel
set_option maxRecDepth 100000 in
theorem ex_36 : evx_36 = evc_36.map ev_x := rfl
theorem em_36 : ev_P 36 (⟨"MeadowSigns$Planner", "cellsOfPart", "(II)I"⟩, prog_6_method_16_code, 5, some .int) := ⟨_, _, rfl, (show ev_tget 8 ev_XT 36 id = (5, evx_36) from rfl).trans (congrArg (Prod.mk 5) ex_36), ev_chk_ok _ ek_36, by decide +kernel⟩
set_option maxRecDepth 100000 in
theorem ek_37 : ev_chk ev_MT "MeadowSigns$Planner" false (some .int) prog_6_method_17_code evc_37 = true := by decide +kernel
set_option maxRecDepth 100000 in
theorem ex_37 : evx_37 = evc_37.map ev_x := rfl
theorem em_37 : ev_P 37 (⟨"MeadowSigns$Planner", "waysOn", "(II)I"⟩, prog_6_method_17_code, 5, some .int) := ⟨_, _, rfl, (show ev_tget 8 ev_XT 37 id = (5, evx_37) from rfl).trans (congrArg (Prod.mk 5) ex_37), ev_chk_ok _ ek_37, by decide +kernel⟩
set_option maxRecDepth 100000 in
theorem ek_38 : ev_chk ev_MT "MeadowSigns$Planner" false (none) prog_6_method_18_code evc_38 = true := by decide +kernel
set_option maxRecDepth 100000 in
theorem ex_38 : evx_38 = evc_38.map ev_x := rfl
theorem em_38 : ev_P 38 (⟨"MeadowSigns$Planner", "layFirstOrder", "(I)V"⟩, prog_6_method_18_code, 6, none) := ⟨_, _, rfl, (show ev_tget 8 ev_XT 38 id = (6, evx_38) from rfl).trans (congrArg (Prod.mk 6) ex_38), ev_chk_ok _ ek_38, by decide +kernel⟩
set_option maxRecDepth 100000 in
theorem ek_39 : ev_chk ev_MT "MeadowSigns$Planner" false (some .int) prog_6_method_21_code evc_39 = true := by decide +kernel
set_option maxRecDepth 100000 in
theorem ex_39 : evx_39 = evc_39.map ev_x := rfl
theorem em_39 : ev_P 39 (⟨"MeadowSigns$Planner", "harmfulCells", "()I"⟩, prog_6_method_21_code, 3, some .int) := ⟨_, _, rfl, (show ev_tget 8 ev_XT 39 id = (3, evx_39) from rfl).trans (congrArg (Prod.mk 3) ex_39), ev_chk_ok _ ek_39, by decide +kernel⟩
set_option maxRecDepth 100000 in
theorem ek_40 : ev_chk ev_MT "MeadowSigns$Reader" true (none) prog_7_method_1_code evc_40 = true := by decide +kernel
set_option maxRecDepth 100000 in
theorem ex_40 : evx_40 = evc_40.map ev_x := rfl
theorem em_40 : ev_P 40 (⟨"MeadowSigns$Reader", "<init>", "(LMeadowSigns$Told;)V"⟩, prog_7_method_1_code, 2, none) := ⟨_, _, rfl, (show ev_tget 8 ev_XT 40 id = (2, evx_40) from rfl).trans (congrArg (Prod.mk 2) ex_40), ev_chk_ok _ ek_40, by decide +kernel⟩
set_option maxRecDepth 100000 in
theorem ek_41 : ev_chk ev_MT "MeadowSigns$Reader" false (none) prog_7_method_2_code evc_41 = true := by decide +kernel
set_option maxRecDepth 100000 in
theorem ex_41 : evx_41 = evc_41.map ev_x := rfl
theorem em_41 : ev_P 41 (⟨"MeadowSigns$Reader", "begin", "(LMeadowSigns$Told;LMeadowSigns$State;I)V"⟩, prog_7_method_2_code, 6, none) := ⟨_, _, rfl, (show ev_tget 8 ev_XT 41 id = (6, evx_41) from rfl).trans (congrArg (Prod.mk 6) ex_41), ev_chk_ok _ ek_41, by decide +kernel⟩
set_option maxRecDepth 100000 in
theorem ek_42 : ev_chk ev_MT "MeadowSigns$Reader" false (some .int) prog_7_method_4_code evc_42 = true := by decide +kernel
set_option maxRecDepth 100000 in
theorem ex_42 : evx_42 = evc_42.map ev_x := rfl
theorem em_42 : ev_P 42 (⟨"MeadowSigns$Reader", "read", "(I)I"⟩, prog_7_method_4_code, 4, some .int) := ⟨_, _, rfl, (show ev_tget 8 ev_XT 42 id = (4, evx_42) from rfl).trans (congrArg (Prod.mk 4) ex_42), ev_chk_ok _ ek_42, by decide +kernel⟩
set_option maxRecDepth 100000 in
theorem ek_43 : ev_chk ev_MT "MeadowSigns$Reader" false (some .int) prog_7_method_5_code evc_43 = true := by decide +kernel
set_option maxRecDepth 100000 in
theorem ex_43 : evx_43 = evc_43.map ev_x := rfl
theorem em_43 : ev_P 43 (⟨"MeadowSigns$Reader", "greatest", "()I"⟩, prog_7_method_5_code, 1, some .int) := ⟨_, _, rfl, (show ev_tget 8 ev_XT 43 id = (1, evx_43) from rfl).trans (congrArg (Prod.mk 1) ex_43), ev_chk_ok _ ek_43, by decide +kernel⟩
set_option maxRecDepth 100000 in
theorem ek_44 : ev_chk ev_MT "MeadowSigns$Reader" false (some .int) prog_7_method_6_code evc_44 = true := by decide +kernel
set_option maxRecDepth 100000 in
theorem ex_44 : evx_44 = evc_44.map ev_x := rfl
theorem em_44 : ev_P 44 (⟨"MeadowSigns$Reader", "answerAt", "(II)I"⟩, prog_7_method_6_code, 5, some .int) := ⟨_, _, rfl, (show ev_tget 8 ev_XT 44 id = (5, evx_44) from rfl).trans (congrArg (Prod.mk 5) ex_44), ev_chk_ok _ ek_44, by decide +kernel⟩
set_option maxRecDepth 100000 in
theorem ek_45 : ev_chk ev_MT "MeadowSigns$Reader" false (none) prog_7_method_7_code evc_45 = true := by decide +kernel
set_option maxRecDepth 100000 in
theorem ex_45 : evx_45 = evc_45.map ev_x := rfl
theorem em_45 : ev_P 45 (⟨"MeadowSigns$Reader", "settle", "(I)V"⟩, prog_7_method_7_code, 5, none) := ⟨_, _, rfl, (show ev_tget 8 ev_XT 45 id = (5, evx_45) from rfl).trans (congrArg (Prod.mk 5) ex_45), ev_chk_ok _ ek_45, by decide +kernel⟩
set_option maxRecDepth 100000 in
theorem ek_46 : ev_chk ev_MT "MeadowSigns$Reader" false (none) prog_7_method_9_code evc_46 = true := by decide +kernel
set_option maxRecDepth 100000 in
theorem ex_46 : evx_46 = evc_46.map ev_x := rfl
theorem em_46 : ev_P 46 (⟨"MeadowSigns$Reader", "choose", "(III)V"⟩, prog_7_method_9_code, 7, none) := ⟨_, _, rfl, (show ev_tget 8 ev_XT 46 id = (7, evx_46) from rfl).trans (congrArg (Prod.mk 7) ex_46), ev_chk_ok _ ek_46, by decide +kernel⟩
set_option maxRecDepth 100000 in
theorem ek_47 : ev_chk ev_MT "MeadowSigns$Reader" false (some .boolean) prog_7_method_10_code evc_47 = true := by decide +kernel
set_option maxRecDepth 100000 in
theorem ex_47 : evx_47 = evc_47.map ev_x := rfl
theorem em_47 : ev_P 47 (⟨"MeadowSigns$Reader", "follow", "()Z"⟩, prog_7_method_10_code, 5, some .boolean) := ⟨_, _, rfl, (show ev_tget 8 ev_XT 47 id = (5, evx_47) from rfl).trans (congrArg (Prod.mk 5) ex_47), ev_chk_ok _ ek_47, by decide +kernel⟩
set_option maxRecDepth 100000 in
theorem ek_48 : ev_chk ev_MT "MeadowSigns$Reader" false (some .boolean) prog_7_method_12_code evc_48 = true := by decide +kernel
set_option maxRecDepth 100000 in
theorem ex_48 : evx_48 = evc_48.map ev_x := rfl
theorem em_48 : ev_P 48 (⟨"MeadowSigns$Reader", "takesAway", "()Z"⟩, prog_7_method_12_code, 2, some .boolean) := ⟨_, _, rfl, (show ev_tget 8 ev_XT 48 id = (2, evx_48) from rfl).trans (congrArg (Prod.mk 2) ex_48), ev_chk_ok _ ek_48, by decide +kernel⟩
set_option maxRecDepth 100000 in
theorem ek_49 : ev_chk ev_MT "MeadowSigns$Reader" false (some .int) prog_7_method_14_code evc_49 = true := by decide +kernel
set_option maxRecDepth 100000 in
theorem ex_49 : evx_49 = evc_49.map ev_x := rfl
theorem em_49 : ev_P 49 (⟨"MeadowSigns$Reader", "signAt", "(I)I"⟩, prog_7_method_14_code, 3, some .int) := ⟨_, _, rfl, (show ev_tget 8 ev_XT 49 id = (3, evx_49) from rfl).trans (congrArg (Prod.mk 3) ex_49), ev_chk_ok _ ek_49, by decide +kernel⟩
set_option maxRecDepth 100000 in
theorem ek_50 : ev_chk ev_MT "MeadowSigns$State" true (none) prog_8_method_1_code evc_50 = true := by decide +kernel
set_option maxRecDepth 100000 in
theorem ex_50 : evx_50 = evc_50.map ev_x := rfl
theorem em_50 : ev_P 50 (⟨"MeadowSigns$State", "<init>", "()V"⟩, prog_8_method_1_code, 1, none) := ⟨_, _, rfl, (show ev_tget 8 ev_XT 50 id = (1, evx_50) from rfl).trans (congrArg (Prod.mk 1) ex_50), ev_chk_ok _ ek_50, by decide +kernel⟩
set_option maxRecDepth 100000 in
theorem ek_51 : ev_chk ev_MT "MeadowSigns$State" false (none) prog_8_method_2_code evc_51 = true := by decide +kernel
set_option maxRecDepth 100000 in
theorem ex_51 : evx_51 = evc_51.map ev_x := rfl
theorem em_51 : ev_P 51 (⟨"MeadowSigns$State", "begin", "(LMeadowSigns$Told;)V"⟩, prog_8_method_2_code, 3, none) := ⟨_, _, rfl, (show ev_tget 8 ev_XT 51 id = (3, evx_51) from rfl).trans (congrArg (Prod.mk 3) ex_51), ev_chk_ok _ ek_51, by decide +kernel⟩
set_option maxRecDepth 100000 in
theorem ek_52 : ev_chk ev_MT "MeadowSigns$State" false (none) prog_8_method_3_code evc_52 = true := by decide +kernel
set_option maxRecDepth 100000 in
theorem ex_52 : evx_52 = evc_52.map ev_x := rfl
theorem em_52 : ev_P 52 (⟨"MeadowSigns$State", "copy", "(LMeadowSigns$State;)V"⟩, prog_8_method_3_code, 2, none) := ⟨_, _, rfl, (show ev_tget 8 ev_XT 52 id = (2, evx_52) from rfl).trans (congrArg (Prod.mk 2) ex_52), ev_chk_ok _ ek_52, by decide +kernel⟩
set_option maxRecDepth 100000 in
theorem ek_53 : ev_chk ev_MT "MeadowSigns$State" false (none) prog_8_method_4_code evc_53 = true := by decide +kernel
set_option maxRecDepth 100000 in
theorem ex_53 : evx_53 = evc_53.map ev_x := rfl
theorem em_53 : ev_P 53 (⟨"MeadowSigns$State", "saveTo", "([II)V"⟩, prog_8_method_4_code, 4, none) := ⟨_, _, rfl, (show ev_tget 8 ev_XT 53 id = (4, evx_53) from rfl).trans (congrArg (Prod.mk 4) ex_53), ev_chk_ok _ ek_53, by decide +kernel⟩
set_option maxRecDepth 100000 in
theorem ek_54 : ev_chk ev_MT "MeadowSigns$State" false (none) prog_8_method_6_code evc_54 = true := by decide +kernel
set_option maxRecDepth 100000 in
theorem ex_54 : evx_54 = evc_54.map ev_x := rfl
theorem em_54 : ev_P 54 (⟨"MeadowSigns$State", "cut", "(I)V"⟩, prog_8_method_6_code, 2, none) := ⟨_, _, rfl, (show ev_tget 8 ev_XT 54 id = (2, evx_54) from rfl).trans (congrArg (Prod.mk 2) ex_54), ev_chk_ok _ ek_54, by decide +kernel⟩
set_option maxRecDepth 100000 in
theorem ek_55 : ev_chk ev_MT "MeadowSigns$State" false (none) prog_8_method_8_code evc_55 = true := by decide +kernel
set_option maxRecDepth 100000 in
theorem ex_55 : evx_55 = evc_55.map ev_x := rfl
theorem em_55 : ev_P 55 (⟨"MeadowSigns$State", "turnYear", "(LMeadowSigns$Told;)V"⟩, prog_8_method_8_code, 3, none) := ⟨_, _, rfl, (show ev_tget 8 ev_XT 55 id = (3, evx_55) from rfl).trans (congrArg (Prod.mk 3) ex_55), ev_chk_ok _ ek_55, by decide +kernel⟩
set_option maxRecDepth 100000 in
theorem ek_56 : ev_chk ev_MT "MeadowSigns$Tape" true (none) prog_9_method_1_code evc_56 = true := by decide +kernel
set_option maxRecDepth 100000 in
theorem ex_56 : evx_56 = evc_56.map ev_x := rfl
theorem em_56 : ev_P 56 (⟨"MeadowSigns$Tape", "<init>", "()V"⟩, prog_9_method_1_code, 1, none) := ⟨_, _, rfl, (show ev_tget 8 ev_XT 56 id = (1, evx_56) from rfl).trans (congrArg (Prod.mk 1) ex_56), ev_chk_ok _ ek_56, by decide +kernel⟩
set_option maxRecDepth 100000 in
theorem ek_57 : ev_chk ev_MT "MeadowSigns$Tape" false (some .boolean) prog_9_method_2_code evc_57 = true := by decide +kernel
set_option maxRecDepth 100000 in
theorem ex_57 : evx_57 = evc_57.map ev_x := rfl
theorem em_57 : ev_P 57 (⟨"MeadowSigns$Tape", "hasRoom", "(I)Z"⟩, prog_9_method_2_code, 2, some .boolean) := ⟨_, _, rfl, (show ev_tget 8 ev_XT 57 id = (2, evx_57) from rfl).trans (congrArg (Prod.mk 2) ex_57), ev_chk_ok _ ek_57, by decide +kernel⟩
set_option maxRecDepth 100000 in
theorem ek_58 : ev_chk ev_MT "MeadowSigns$Tape" false (none) prog_9_method_3_code evc_58 = true := by decide +kernel
set_option maxRecDepth 100000 in
theorem ex_58 : evx_58 = evc_58.map ev_x := rfl
theorem em_58 : ev_P 58 (⟨"MeadowSigns$Tape", "putFour", "(I)V"⟩, prog_9_method_3_code, 3, none) := ⟨_, _, rfl, (show ev_tget 8 ev_XT 58 id = (3, evx_58) from rfl).trans (congrArg (Prod.mk 3) ex_58), ev_chk_ok _ ek_58, by decide +kernel⟩
set_option maxRecDepth 100000 in
theorem ek_59 : ev_chk ev_MT "MeadowSigns$Tape" false (some .boolean) prog_9_method_4_code evc_59 = true := by decide +kernel
set_option maxRecDepth 100000 in
theorem ex_59 : evx_59 = evc_59.map ev_x := rfl
theorem em_59 : ev_P 59 (⟨"MeadowSigns$Tape", "cutTo", "(I)Z"⟩, prog_9_method_4_code, 2, some .boolean) := ⟨_, _, rfl, (show ev_tget 8 ev_XT 59 id = (2, evx_59) from rfl).trans (congrArg (Prod.mk 2) ex_59), ev_chk_ok _ ek_59, by decide +kernel⟩
set_option maxRecDepth 100000 in
theorem ek_60 : ev_chk ev_MT "MeadowSigns$Tape" false (none) prog_9_method_5_code evc_60 = true := by decide +kernel
set_option maxRecDepth 100000 in
theorem ex_60 : evx_60 = evc_60.map ev_x := rfl
theorem em_60 : ev_P 60 (⟨"MeadowSigns$Tape", "begin", "()V"⟩, prog_9_method_5_code, 1, none) := ⟨_, _, rfl, (show ev_tget 8 ev_XT 60 id = (1, evx_60) from rfl).trans (congrArg (Prod.mk 1) ex_60), ev_chk_ok _ ek_60, by decide +kernel⟩
set_option maxRecDepth 100000 in
theorem ek_61 : ev_chk ev_MT "MeadowSigns$Tape" false (none) prog_9_method_6_code evc_61 = true := by decide +kernel
set_option maxRecDepth 100000 in
theorem ex_61 : evx_61 = evc_61.map ev_x := rfl
theorem em_61 : ev_P 61 (⟨"MeadowSigns$Tape", "advance", "()V"⟩, prog_9_method_6_code, 1, none) := ⟨_, _, rfl, (show ev_tget 8 ev_XT 61 id = (1, evx_61) from rfl).trans (congrArg (Prod.mk 1) ex_61), ev_chk_ok _ ek_61, by decide +kernel⟩
set_option maxRecDepth 100000 in
theorem ek_62 : ev_chk ev_MT "MeadowSigns$Told" true (none) prog_10_method_1_code evc_62 = true := by decide +kernel
set_option maxRecDepth 100000 in
theorem ex_62 : evx_62 = evc_62.map ev_x := rfl
theorem em_62 : ev_P 62 (⟨"MeadowSigns$Told", "<init>", "()V"⟩, prog_10_method_1_code, 1, none) := ⟨_, _, rfl, (show ev_tget 8 ev_XT 62 id = (1, evx_62) from rfl).trans (congrArg (Prod.mk 1) ex_62), ev_chk_ok _ ek_62, by decide +kernel⟩
set_option maxRecDepth 100000 in
theorem ek_63 : ev_chk ev_MT "MeadowSigns$Told" false (none) prog_10_method_2_code evc_63 = true := by decide +kernel
set_option maxRecDepth 100000 in
theorem ex_63 : evx_63 = evc_63.map ev_x := rfl
theorem em_63 : ev_P 63 (⟨"MeadowSigns$Told", "clear", "()V"⟩, prog_10_method_2_code, 2, none) := ⟨_, _, rfl, (show ev_tget 8 ev_XT 63 id = (2, evx_63) from rfl).trans (congrArg (Prod.mk 2) ex_63), ev_chk_ok _ ek_63, by decide +kernel⟩
