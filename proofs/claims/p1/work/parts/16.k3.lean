/-! the check, methods 64 on -/
set_option maxRecDepth 100000 in
theorem ek_64 : ev_chk ev_MT "MeadowSigns" true (none) prog_1_method_1_code evc_64 = true := by decide +kernel
set_option maxRecDepth 100000 in
theorem ex_64 : evx_64 = evc_64.map ev_x := rfl
theorem em_64 : ev_P 64 (⟨"MeadowSigns", "<init>", "()V"⟩, prog_1_method_1_code, 1, none) := ⟨_, _, rfl, (show ev_tget 8 ev_XT 64 id = (1, evx_64) from rfl).trans (congrArg (Prod.mk 1) ex_64), ev_chk_ok _ ek_64, by decide +kernel⟩
set_option maxRecDepth 100000 in
theorem ek_65 : ev_chk ev_MT "MeadowSigns" false (some .int) prog_1_method_2_code evc_65 = true := by decide +kernel
set_option maxRecDepth 100000 in
theorem ex_65 : evx_65 = evc_65.map ev_x := rfl
theorem em_65 : ev_P 65 (⟨"MeadowSigns", "feed", "(IIIII)I"⟩, prog_1_method_2_code, 7, some .int) := ⟨_, _, rfl, (show ev_tget 8 ev_XT 65 id = (7, evx_65) from rfl).trans (congrArg (Prod.mk 7) ex_65), ev_chk_ok _ ek_65, by decide +kernel⟩
set_option maxRecDepth 100000 in
theorem ek_66 : ev_chk ev_MT "MeadowSigns" false (some .int) prog_1_method_3_code evc_66 = true := by decide +kernel
set_option maxRecDepth 100000 in
theorem ex_66 : evx_66 = evc_66.map ev_x := rfl
theorem em_66 : ev_P 66 (⟨"MeadowSigns", "end", "(I)I"⟩, prog_1_method_3_code, 2, some .int) := ⟨_, _, rfl, (show ev_tget 8 ev_XT 66 id = (2, evx_66) from rfl).trans (congrArg (Prod.mk 2) ex_66), ev_chk_ok _ ek_66, by decide +kernel⟩
set_option maxRecDepth 100000 in
theorem ek_67 : ev_chk ev_MT "MeadowSigns" false (some .int) prog_1_method_4_code evc_67 = true := by decide +kernel
set_option maxRecDepth 100000 in
theorem ex_67 : evx_67 = evc_67.map ev_x := rfl
theorem em_67 : ev_P 67 (⟨"MeadowSigns", "meadow", "()I"⟩, prog_1_method_4_code, 2, some .int) := ⟨_, _, rfl, (show ev_tget 8 ev_XT 67 id = (2, evx_67) from rfl).trans (congrArg (Prod.mk 2) ex_67), ev_chk_ok _ ek_67, by decide +kernel⟩
set_option maxRecDepth 100000 in
theorem ek_68 : ev_chk ev_MT "MeadowSigns" false (some .int) prog_1_method_5_code evc_68 = true := by decide +kernel
set_option maxRecDepth 100000 in
theorem ex_68 : evx_68 = evc_68.map ev_x := rfl
theorem em_68 : ev_P 68 (⟨"MeadowSigns", "fault", "(I)I"⟩, prog_1_method_5_code, 2, some .int) := ⟨_, _, rfl, (show ev_tget 8 ev_XT 68 id = (2, evx_68) from rfl).trans (congrArg (Prod.mk 2) ex_68), ev_chk_ok _ ek_68, by decide +kernel⟩
set_option maxRecDepth 100000 in
theorem ek_69 : ev_chk ev_MT "MeadowSigns" false (some .int) prog_1_method_6_code evc_69 = true := by decide +kernel
set_option maxRecDepth 100000 in
theorem ex_69 : evx_69 = evc_69.map ev_x := rfl
theorem em_69 : ev_P 69 (⟨"MeadowSigns", "thing", "(I)I"⟩, prog_1_method_6_code, 2, some .int) := ⟨_, _, rfl, (show ev_tget 8 ev_XT 69 id = (2, evx_69) from rfl).trans (congrArg (Prod.mk 2) ex_69), ev_chk_ok _ ek_69, by decide +kernel⟩
set_option maxRecDepth 100000 in
theorem ek_70 : ev_chk ev_MT "MeadowSigns" false (some .int) prog_1_method_7_code evc_70 = true := by decide +kernel
set_option maxRecDepth 100000 in
theorem ex_70 : evx_70 = evc_70.map ev_x := rfl
theorem em_70 : ev_P 70 (⟨"MeadowSigns", "glyph", "(II)I"⟩, prog_1_method_7_code, 3, some .int) := ⟨_, _, rfl, (show ev_tget 8 ev_XT 70 id = (3, evx_70) from rfl).trans (congrArg (Prod.mk 3) ex_70), ev_chk_ok _ ek_70, by decide +kernel⟩
set_option maxRecDepth 100000 in
theorem ek_71 : ev_chk ev_MT "MeadowSigns" false (some .int) prog_1_method_8_code evc_71 = true := by decide +kernel
set_option maxRecDepth 100000 in
theorem ex_71 : evx_71 = evc_71.map ev_x := rfl
theorem em_71 : ev_P 71 (⟨"MeadowSigns", "plot", "(II)I"⟩, prog_1_method_8_code, 4, some .int) := ⟨_, _, rfl, (show ev_tget 8 ev_XT 71 id = (4, evx_71) from rfl).trans (congrArg (Prod.mk 4) ex_71), ev_chk_ok _ ek_71, by decide +kernel⟩
set_option maxRecDepth 100000 in
theorem ek_72 : ev_chk ev_MT "MeadowSigns" false (some .int) prog_1_method_9_code evc_72 = true := by decide +kernel
set_option maxRecDepth 100000 in
theorem ex_72 : evx_72 = evc_72.map ev_x := rfl
theorem em_72 : ev_P 72 (⟨"MeadowSigns", "mow", "(I)I"⟩, prog_1_method_9_code, 2, some .int) := ⟨_, _, rfl, (show ev_tget 8 ev_XT 72 id = (2, evx_72) from rfl).trans (congrArg (Prod.mk 2) ex_72), ev_chk_ok _ ek_72, by decide +kernel⟩
set_option maxRecDepth 100000 in
theorem ek_73 : ev_chk ev_MT "MeadowSigns" false (some .int) prog_1_method_10_code evc_73 = true := by decide +kernel
set_option maxRecDepth 100000 in
theorem ex_73 : evx_73 = evc_73.map ev_x := rfl
theorem em_73 : ev_P 73 (⟨"MeadowSigns", "sow", "(I)I"⟩, prog_1_method_10_code, 2, some .int) := ⟨_, _, rfl, (show ev_tget 8 ev_XT 73 id = (2, evx_73) from rfl).trans (congrArg (Prod.mk 2) ex_73), ev_chk_ok _ ek_73, by decide +kernel⟩
set_option maxRecDepth 100000 in
theorem ek_74 : ev_chk ev_MT "MeadowSigns" false (some .int) prog_1_method_11_code evc_74 = true := by decide +kernel
set_option maxRecDepth 100000 in
theorem ex_74 : evx_74 = evc_74.map ev_x := rfl
theorem em_74 : ev_P 74 (⟨"MeadowSigns", "year", "()I"⟩, prog_1_method_11_code, 2, some .int) := ⟨_, _, rfl, (show ev_tget 8 ev_XT 74 id = (2, evx_74) from rfl).trans (congrArg (Prod.mk 2) ex_74), ev_chk_ok _ ek_74, by decide +kernel⟩
set_option maxRecDepth 100000 in
theorem ek_75 : ev_chk ev_MT "MeadowSigns" false (some .boolean) prog_1_method_12_code evc_75 = true := by decide +kernel
set_option maxRecDepth 100000 in
theorem ex_75 : evx_75 = evc_75.map ev_x := rfl
theorem em_75 : ev_P 75 (⟨"MeadowSigns", "undo", "()Z"⟩, prog_1_method_12_code, 1, some .boolean) := ⟨_, _, rfl, (show ev_tget 8 ev_XT 75 id = (1, evx_75) from rfl).trans (congrArg (Prod.mk 1) ex_75), ev_chk_ok _ ek_75, by decide +kernel⟩
set_option maxRecDepth 100000 in
theorem ek_76 : ev_chk ev_MT "MeadowSigns" false (some .boolean) prog_1_method_13_code evc_76 = true := by decide +kernel
set_option maxRecDepth 100000 in
theorem ex_76 : evx_76 = evc_76.map ev_x := rfl
theorem em_76 : ev_P 76 (⟨"MeadowSigns", "redo", "()Z"⟩, prog_1_method_13_code, 1, some .boolean) := ⟨_, _, rfl, (show ev_tget 8 ev_XT 76 id = (1, evx_76) from rfl).trans (congrArg (Prod.mk 1) ex_76), ev_chk_ok _ ek_76, by decide +kernel⟩
set_option maxRecDepth 100000 in
theorem ek_77 : ev_chk ev_MT "MeadowSigns" false (some .int) prog_1_method_14_code evc_77 = true := by decide +kernel
set_option maxRecDepth 100000 in
theorem ex_77 : evx_77 = evc_77.map ev_x := rfl
theorem em_77 : ev_P 77 (⟨"MeadowSigns", "readings", "()I"⟩, prog_1_method_14_code, 1, some .int) := ⟨_, _, rfl, (show ev_tget 8 ev_XT 77 id = (1, evx_77) from rfl).trans (congrArg (Prod.mk 1) ex_77), ev_chk_ok _ ek_77, by decide +kernel⟩
set_option maxRecDepth 100000 in
theorem ek_78 : ev_chk ev_MT "MeadowSigns" false (some .int) prog_1_method_15_code evc_78 = true := by decide +kernel
set_option maxRecDepth 100000 in
theorem ex_78 : evx_78 = evc_78.map ev_x := rfl
theorem em_78 : ev_P 78 (⟨"MeadowSigns", "taken", "()I"⟩, prog_1_method_15_code, 2, some .int) := ⟨_, _, rfl, (show ev_tget 8 ev_XT 78 id = (2, evx_78) from rfl).trans (congrArg (Prod.mk 2) ex_78), ev_chk_ok _ ek_78, by decide +kernel⟩
set_option maxRecDepth 100000 in
theorem ek_79 : ev_chk ev_MT "MeadowSigns" false (some .int) prog_1_method_16_code evc_79 = true := by decide +kernel
set_option maxRecDepth 100000 in
theorem ex_79 : evx_79 = evc_79.map ev_x := rfl
theorem em_79 : ev_P 79 (⟨"MeadowSigns", "weight", "()I"⟩, prog_1_method_16_code, 1, some .int) := ⟨_, _, rfl, (show ev_tget 8 ev_XT 79 id = (1, evx_79) from rfl).trans (congrArg (Prod.mk 1) ex_79), ev_chk_ok _ ek_79, by decide +kernel⟩
set_option maxRecDepth 100000 in
theorem ek_80 : ev_chk ev_MT "MeadowSigns" false (some .int) prog_1_method_17_code evc_80 = true := by decide +kernel
set_option maxRecDepth 100000 in
theorem ex_80 : evx_80 = evc_80.map ev_x := rfl
theorem em_80 : ev_P 80 (⟨"MeadowSigns", "does", "(I)I"⟩, prog_1_method_17_code, 2, some .int) := ⟨_, _, rfl, (show ev_tget 8 ev_XT 80 id = (2, evx_80) from rfl).trans (congrArg (Prod.mk 2) ex_80), ev_chk_ok _ ek_80, by decide +kernel⟩
set_option maxRecDepth 100000 in
theorem ek_81 : ev_chk ev_MT "MeadowSigns" false (some .int) prog_1_method_18_code evc_81 = true := by decide +kernel
set_option maxRecDepth 100000 in
theorem ex_81 : evx_81 = evc_81.map ev_x := rfl
theorem em_81 : ev_P 81 (⟨"MeadowSigns", "will", "(II)I"⟩, prog_1_method_18_code, 3, some .int) := ⟨_, _, rfl, (show ev_tget 8 ev_XT 81 id = (3, evx_81) from rfl).trans (congrArg (Prod.mk 3) ex_81), ev_chk_ok _ ek_81, by decide +kernel⟩
set_option maxRecDepth 100000 in
theorem ek_82 : ev_chk ev_MT "MeadowSigns" false (some .int) prog_1_method_19_code evc_82 = true := by decide +kernel
set_option maxRecDepth 100000 in
theorem ex_82 : evx_82 = evc_82.map ev_x := rfl
theorem em_82 : ev_P 82 (⟨"MeadowSigns", "field", "(I)I"⟩, prog_1_method_19_code, 2, some .int) := ⟨_, _, rfl, (show ev_tget 8 ev_XT 82 id = (2, evx_82) from rfl).trans (congrArg (Prod.mk 2) ex_82), ev_chk_ok _ ek_82, by decide +kernel⟩
set_option maxRecDepth 100000 in
theorem ek_83 : ev_chk ev_MT "MeadowSigns" false (some .int) prog_1_method_20_code evc_83 = true := by decide +kernel
set_option maxRecDepth 100000 in
theorem ex_83 : evx_83 = evc_83.map ev_x := rfl
theorem em_83 : ev_P 83 (⟨"MeadowSigns", "harm", "()I"⟩, prog_1_method_20_code, 1, some .int) := ⟨_, _, rfl, (show ev_tget 8 ev_XT 83 id = (1, evx_83) from rfl).trans (congrArg (Prod.mk 1) ex_83), ev_chk_ok _ ek_83, by decide +kernel⟩
set_option maxRecDepth 100000 in
theorem ek_84 : ev_chk ev_MT "MeadowSigns" false (some .int) prog_1_method_21_code evc_84 = true := by decide +kernel
set_option maxRecDepth 100000 in
theorem ex_84 : evx_84 = evc_84.map ev_x := rfl
theorem em_84 : ev_P 84 (⟨"MeadowSigns", "turn", "(II)I"⟩, prog_1_method_21_code, 3, some .int) := ⟨_, _, rfl, (show ev_tget 8 ev_XT 84 id = (3, evx_84) from rfl).trans (congrArg (Prod.mk 3) ex_84), ev_chk_ok _ ek_84, by decide +kernel⟩
set_option maxRecDepth 100000 in
theorem ek_85 : ev_chk ev_MT "MeadowSigns" false (some .int) prog_1_method_22_code evc_85 = true := by decide +kernel
set_option maxRecDepth 100000 in
theorem ex_85 : evx_85 = evc_85.map ev_x := rfl
theorem em_85 : ev_P 85 (⟨"MeadowSigns", "plain", "()I"⟩, prog_1_method_22_code, 1, some .int) := ⟨_, _, rfl, (show ev_tget 8 ev_XT 85 id = (1, evx_85) from rfl).trans (congrArg (Prod.mk 1) ex_85), ev_chk_ok _ ek_85, by decide +kernel⟩
set_option maxRecDepth 100000 in
theorem ek_86 : ev_chk ev_MT "MeadowSigns" false (some .int) prog_1_method_23_code evc_86 = true := by decide +kernel
set_option maxRecDepth 100000 in
theorem ex_86 : evx_86 = evc_86.map ev_x := rfl
theorem em_86 : ev_P 86 (⟨"MeadowSigns", "orders", "(I)I"⟩, prog_1_method_23_code, 2, some .int) := ⟨_, _, rfl, (show ev_tget 8 ev_XT 86 id = (2, evx_86) from rfl).trans (congrArg (Prod.mk 2) ex_86), ev_chk_ok _ ek_86, by decide +kernel⟩
set_option maxRecDepth 100000 in
theorem ek_87 : ev_chk ev_MT "MeadowSigns" false (some .int) prog_1_method_24_code evc_87 = true := by decide +kernel
set_option maxRecDepth 100000 in
theorem ex_87 : evx_87 = evc_87.map ev_x := rfl
theorem em_87 : ev_P 87 (⟨"MeadowSigns", "write", "(III)I"⟩, prog_1_method_24_code, 6, some .int) := ⟨_, _, rfl, (show ev_tget 8 ev_XT 87 id = (6, evx_87) from rfl).trans (congrArg (Prod.mk 6) ex_87), ev_chk_ok _ ek_87, by decide +kernel⟩
set_option maxRecDepth 100000 in
theorem ek_88 : ev_chk ev_MT "MeadowSigns" false (some .int) prog_1_method_25_code evc_88 = true := by decide +kernel
set_option maxRecDepth 100000 in
theorem ex_88 : evx_88 = evc_88.map ev_x := rfl
theorem em_88 : ev_P 88 (⟨"MeadowSigns", "watch", "()I"⟩, prog_1_method_25_code, 1, some .int) := ⟨_, _, rfl, (show ev_tget 8 ev_XT 88 id = (1, evx_88) from rfl).trans (congrArg (Prod.mk 1) ex_88), ev_chk_ok _ ek_88, by decide +kernel⟩
set_option maxRecDepth 100000 in
theorem ek_89 : ev_chk ev_MT "MeadowSigns" false (some .int) prog_1_method_26_code evc_89 = true := by decide +kernel
set_option maxRecDepth 100000 in
theorem ex_89 : evx_89 = evc_89.map ev_x := rfl
theorem em_89 : ev_P 89 (⟨"MeadowSigns", "cows", "(II)I"⟩, prog_1_method_26_code, 3, some .int) := ⟨_, _, rfl, (show ev_tget 8 ev_XT 89 id = (3, evx_89) from rfl).trans (congrArg (Prod.mk 3) ex_89), ev_chk_ok _ ek_89, by decide +kernel⟩
set_option maxRecDepth 100000 in
theorem ek_90 : ev_chk ev_MT "MeadowSigns" false (some .int) prog_1_method_27_code evc_90 = true := by decide +kernel
set_option maxRecDepth 100000 in
theorem ex_90 : evx_90 = evc_90.map ev_x := rfl
theorem em_90 : ev_P 90 (⟨"MeadowSigns", "duel", "(IIII)I"⟩, prog_1_method_27_code, 6, some .int) := ⟨_, _, rfl, (show ev_tget 8 ev_XT 90 id = (6, evx_90) from rfl).trans (congrArg (Prod.mk 6) ex_90), ev_chk_ok _ ek_90, by decide +kernel⟩
set_option maxRecDepth 100000 in
theorem ek_91 : ev_chk ev_MT "MeadowSigns" false (some .int) prog_1_method_28_code evc_91 = true := by decide +kernel
set_option maxRecDepth 100000 in
theorem ex_91 : evx_91 = evc_91.map ev_x := rfl
theorem em_91 : ev_P 91 (⟨"MeadowSigns", "lies", "(I)I"⟩, prog_1_method_28_code, 2, some .int) := ⟨_, _, rfl, (show ev_tget 8 ev_XT 91 id = (2, evx_91) from rfl).trans (congrArg (Prod.mk 2) ex_91), ev_chk_ok _ ek_91, by decide +kernel⟩
set_option maxRecDepth 100000 in
theorem ek_92 : ev_chk ev_MT "MeadowSigns" false (some .int) prog_1_method_29_code evc_92 = true := by decide +kernel
set_option maxRecDepth 100000 in
theorem ex_92 : evx_92 = evc_92.map ev_x := rfl
theorem em_92 : ev_P 92 (⟨"MeadowSigns", "heard", "(IIIZ)I"⟩, prog_1_method_29_code, 5, some .int) := ⟨_, _, rfl, (show ev_tget 8 ev_XT 92 id = (5, evx_92) from rfl).trans (congrArg (Prod.mk 5) ex_92), ev_chk_ok _ ek_92, by decide +kernel⟩
set_option maxRecDepth 100000 in
theorem ek_93 : ev_chk ev_MT "MeadowSigns" false (some .boolean) prog_1_method_30_code evc_93 = true := by decide +kernel
set_option maxRecDepth 100000 in
theorem ex_93 : evx_93 = evc_93.map ev_x := rfl
theorem em_93 : ev_P 93 (⟨"MeadowSigns", "untell", "(I)Z"⟩, prog_1_method_30_code, 2, some .boolean) := ⟨_, _, rfl, (show ev_tget 8 ev_XT 93 id = (2, evx_93) from rfl).trans (congrArg (Prod.mk 2) ex_93), ev_chk_ok _ ek_93, by decide +kernel⟩
set_option maxRecDepth 100000 in
theorem ek_94 : ev_chk ev_MT "MeadowSigns" false (some .int) prog_1_method_31_code evc_94 = true := by decide +kernel
set_option maxRecDepth 100000 in
theorem ex_94 : evx_94 = evc_94.map ev_x := rfl
theorem em_94 : ev_P 94 (⟨"MeadowSigns", "later", "(I)I"⟩, prog_1_method_31_code, 2, some .int) := ⟨_, _, rfl, (show ev_tget 8 ev_XT 94 id = (2, evx_94) from rfl).trans (congrArg (Prod.mk 2) ex_94), ev_chk_ok _ ek_94, by decide +kernel⟩
set_option maxRecDepth 100000 in
theorem ek_95 : ev_chk ev_MT "MeadowSigns" false (some .int) prog_1_method_32_code evc_95 = true := by decide +kernel
set_option maxRecDepth 100000 in
theorem ex_95 : evx_95 = evc_95.map ev_x := rfl
theorem em_95 : ev_P 95 (⟨"MeadowSigns", "fit", "(I)I"⟩, prog_1_method_32_code, 2, some .int) := ⟨_, _, rfl, (show ev_tget 8 ev_XT 95 id = (2, evx_95) from rfl).trans (congrArg (Prod.mk 2) ex_95), ev_chk_ok _ ek_95, by decide +kernel⟩
