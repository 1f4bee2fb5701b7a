/-! the check, methods 96 on -/
set_option maxRecDepth 100000 in
theorem ek_96 : ev_chk ev_MT "MeadowSigns" false (some .int) prog_1_method_33_code evc_96 = true := by decide +kernel
set_option maxRecDepth 100000 in
theorem ex_96 : evx_96 = evc_96.map ev_x := rfl
theorem em_96 : ev_P 96 (⟨"MeadowSigns", "sure", "(III)I"⟩, prog_1_method_33_code, 4, some .int) := ⟨_, _, rfl, (show ev_tget 8 ev_XT 96 id = (4, evx_96) from rfl).trans (congrArg (Prod.mk 4) ex_96), ev_chk_ok _ ek_96, by decide +kernel⟩
set_option maxRecDepth 100000 in
theorem ek_97 : ev_chk ev_MT "MeadowSigns" false (some .int) prog_1_method_34_code evc_97 = true := by decide +kernel
set_option maxRecDepth 100000 in
theorem ex_97 : evx_97 = evc_97.map ev_x := rfl
theorem em_97 : ev_P 97 (⟨"MeadowSigns", "ask", "(II)I"⟩, prog_1_method_34_code, 3, some .int) := ⟨_, _, rfl, (show ev_tget 8 ev_XT 97 id = (3, evx_97) from rfl).trans (congrArg (Prod.mk 3) ex_97), ev_chk_ok _ ek_97, by decide +kernel⟩
set_option maxRecDepth 100000 in
theorem ek_98 : ev_chk ev_MT "MeadowSigns" false (some .int) prog_1_method_35_code evc_98 = true := by decide +kernel
set_option maxRecDepth 100000 in
theorem ex_98 : evx_98 = evc_98.map ev_x := rfl
theorem em_98 : ev_P 98 (⟨"MeadowSigns", "image", "(I)I"⟩, prog_1_method_35_code, 2, some .int) := ⟨_, _, rfl, (show ev_tget 8 ev_XT 98 id = (2, evx_98) from rfl).trans (congrArg (Prod.mk 2) ex_98), ev_chk_ok _ ek_98, by decide +kernel⟩
set_option maxRecDepth 100000 in
theorem ek_99 : ev_chk ev_MT "MeadowSigns" false (some .int) prog_1_method_36_code evc_99 = true := by decide +kernel
set_option maxRecDepth 100000 in
theorem ex_99 : evx_99 = evc_99.map ev_x := rfl
theorem em_99 : ev_P 99 (⟨"MeadowSigns", "back", "(I)I"⟩, prog_1_method_36_code, 2, some .int) := ⟨_, _, rfl, (show ev_tget 8 ev_XT 99 id = (2, evx_99) from rfl).trans (congrArg (Prod.mk 2) ex_99), ev_chk_ok _ ek_99, by decide +kernel⟩
set_option maxRecDepth 100000 in
theorem ek_100 : ev_chk ev_MT "MeadowSigns" false (some .int) prog_1_method_37_code evc_100 = true := by decide +kernel
set_option maxRecDepth 100000 in
theorem ex_100 : evx_100 = evc_100.map ev_x := rfl
theorem em_100 : ev_P 100 (⟨"MeadowSigns", "about", "(I)I"⟩, prog_1_method_37_code, 2, some .int) := ⟨_, _, rfl, (show ev_tget 8 ev_XT 100 id = (2, evx_100) from rfl).trans (congrArg (Prod.mk 2) ex_100), ev_chk_ok _ ek_100, by decide +kernel⟩
set_option maxRecDepth 100000 in
theorem ek_101 : ev_chk ev_MT "MeadowSigns" false (some .boolean) prog_1_method_38_code evc_101 = true := by decide +kernel
set_option maxRecDepth 100000 in
theorem ex_101 : evx_101 = evc_101.map ev_x := rfl
theorem em_101 : ev_P 101 (⟨"MeadowSigns", "isIn", "(II)Z"⟩, prog_1_method_38_code, 2, some .boolean) := ⟨_, _, rfl, (show ev_tget 8 ev_XT 101 id = (2, evx_101) from rfl).trans (congrArg (Prod.mk 2) ex_101), ev_chk_ok _ ek_101, by decide +kernel⟩
set_option maxRecDepth 100000 in
theorem ek_102 : ev_chk ev_MT "MeadowSigns" false (some .boolean) prog_1_method_40_code evc_102 = true := by decide +kernel
set_option maxRecDepth 100000 in
theorem ex_102 : evx_102 = evc_102.map ev_x := rfl
theorem em_102 : ev_P 102 (⟨"MeadowSigns", "isThing", "(I)Z"⟩, prog_1_method_40_code, 2, some .boolean) := ⟨_, _, rfl, (show ev_tget 8 ev_XT 102 id = (2, evx_102) from rfl).trans (congrArg (Prod.mk 2) ex_102), ev_chk_ok _ ek_102, by decide +kernel⟩
set_option maxRecDepth 100000 in
theorem ek_103 : ev_chk ev_MT "MeadowSigns" false (some .boolean) prog_1_method_41_code evc_103 = true := by decide +kernel
set_option maxRecDepth 100000 in
theorem ex_103 : evx_103 = evc_103.map ev_x := rfl
theorem em_103 : ev_P 103 (⟨"MeadowSigns", "isSign", "(I)Z"⟩, prog_1_method_41_code, 2, some .boolean) := ⟨_, _, rfl, (show ev_tget 8 ev_XT 103 id = (2, evx_103) from rfl).trans (congrArg (Prod.mk 2) ex_103), ev_chk_ok _ ek_103, by decide +kernel⟩
set_option maxRecDepth 100000 in
theorem ek_104 : ev_chk ev_MT "MeadowSigns" false (some .boolean) prog_1_method_42_code evc_104 = true := by decide +kernel
set_option maxRecDepth 100000 in
theorem ex_104 : evx_104 = evc_104.map ev_x := rfl
theorem em_104 : ev_P 104 (⟨"MeadowSigns", "isCell", "(I)Z"⟩, prog_1_method_42_code, 2, some .boolean) := ⟨_, _, rfl, (show ev_tget 8 ev_XT 104 id = (2, evx_104) from rfl).trans (congrArg (Prod.mk 2) ex_104), ev_chk_ok _ ek_104, by decide +kernel⟩
set_option maxRecDepth 100000 in
theorem ek_105 : ev_chk ev_MT "MeadowSigns" false (some .int) prog_1_method_43_code evc_105 = true := by decide +kernel
set_option maxRecDepth 100000 in
theorem ex_105 : evx_105 = evc_105.map ev_x := rfl
theorem em_105 : ev_P 105 (⟨"MeadowSigns", "openCells", "()I"⟩, prog_1_method_43_code, 1, some .int) := ⟨_, _, rfl, (show ev_tget 8 ev_XT 105 id = (1, evx_105) from rfl).trans (congrArg (Prod.mk 1) ex_105), ev_chk_ok _ ek_105, by decide +kernel⟩
set_option maxRecDepth 100000 in
theorem ek_106 : ev_chk ev_MT "MeadowSigns" false (some .boolean) prog_1_method_44_code evc_106 = true := by decide +kernel
set_option maxRecDepth 100000 in
theorem ex_106 : evx_106 = evc_106.map ev_x := rfl
theorem em_106 : ev_P 106 (⟨"MeadowSigns", "isOpen", "(I)Z"⟩, prog_1_method_44_code, 2, some .boolean) := ⟨_, _, rfl, (show ev_tget 8 ev_XT 106 id = (2, evx_106) from rfl).trans (congrArg (Prod.mk 2) ex_106), ev_chk_ok _ ek_106, by decide +kernel⟩
set_option maxRecDepth 100000 in
theorem ek_107 : ev_chk ev_MT "MeadowSigns" false (some .int) prog_1_method_45_code evc_107 = true := by decide +kernel
set_option maxRecDepth 100000 in
theorem ex_107 : evx_107 = evc_107.map ev_x := rfl
theorem em_107 : ev_P 107 (⟨"MeadowSigns", "readAll", "(LMeadowSigns$State;)I"⟩, prog_1_method_45_code, 3, some .int) := ⟨_, _, rfl, (show ev_tget 8 ev_XT 107 id = (3, evx_107) from rfl).trans (congrArg (Prod.mk 3) ex_107), ev_chk_ok _ ek_107, by decide +kernel⟩
set_option maxRecDepth 100000 in
theorem ek_108 : ev_chk ev_MT "MeadowSigns" false (some .boolean) prog_1_method_46_code evc_108 = true := by decide +kernel
set_option maxRecDepth 100000 in
theorem ex_108 : evx_108 = evc_108.map ev_x := rfl
theorem em_108 : ev_P 108 (⟨"MeadowSigns", "takeNow", "()Z"⟩, prog_1_method_46_code, 1, some .boolean) := ⟨_, _, rfl, (show ev_tget 8 ev_XT 108 id = (1, evx_108) from rfl).trans (congrArg (Prod.mk 1) ex_108), ev_chk_ok _ ek_108, by decide +kernel⟩
set_option maxRecDepth 100000 in
theorem ek_109 : ev_chk ev_MT "MeadowSigns" false (some .int) prog_1_method_47_code evc_109 = true := by decide +kernel
set_option maxRecDepth 100000 in
theorem ex_109 : evx_109 = evc_109.map ev_x := rfl
theorem em_109 : ev_P 109 (⟨"MeadowSigns", "passYear", "(LMeadowSigns$State;)I"⟩, prog_1_method_47_code, 5, some .int) := ⟨_, _, rfl, (show ev_tget 8 ev_XT 109 id = (5, evx_109) from rfl).trans (congrArg (Prod.mk 5) ex_109), ev_chk_ok _ ek_109, by decide +kernel⟩
set_option maxRecDepth 100000 in
theorem ek_110 : ev_chk ev_MT "MeadowSigns" false (some .boolean) prog_1_method_48_code evc_110 = true := by decide +kernel
set_option maxRecDepth 100000 in
theorem ex_110 : evx_110 = evc_110.map ev_x := rfl
theorem em_110 : ev_P 110 (⟨"MeadowSigns", "goAhead", "(I)Z"⟩, prog_1_method_48_code, 3, some .boolean) := ⟨_, _, rfl, (show ev_tget 8 ev_XT 110 id = (3, evx_110) from rfl).trans (congrArg (Prod.mk 3) ex_110), ev_chk_ok _ ek_110, by decide +kernel⟩
set_option maxRecDepth 100000 in
theorem ek_111 : ev_chk ev_MT "MeadowSignsModel" true (none) prog_12_method_1_code evc_111 = true := by decide +kernel
set_option maxRecDepth 100000 in
theorem ex_111 : evx_111 = evc_111.map ev_x := rfl
theorem em_111 : ev_P 111 (⟨"MeadowSignsModel", "<init>", "()V"⟩, prog_12_method_1_code, 1, none) := ⟨_, _, rfl, (show ev_tget 8 ev_XT 111 id = (1, evx_111) from rfl).trans (congrArg (Prod.mk 1) ex_111), ev_chk_ok _ ek_111, by decide +kernel⟩
set_option maxRecDepth 100000 in
theorem ek_112 : ev_chk ev_MT "MeadowSignsModel" false (some .int) prog_12_method_2_code evc_112 = true := by decide +kernel
set_option maxRecDepth 100000 in
theorem ex_112 : evx_112 = evc_112.map ev_x := rfl
theorem em_112 : ev_P 112 (⟨"MeadowSignsModel", "sign", "(I)I"⟩, prog_12_method_2_code, 2, some .int) := ⟨_, _, rfl, (show ev_tget 8 ev_XT 112 id = (2, evx_112) from rfl).trans (congrArg (Prod.mk 2) ex_112), ev_chk_ok _ ek_112, by decide +kernel⟩
set_option maxRecDepth 100000 in
theorem ek_113 : ev_chk ev_MT "MeadowSignsModel" false (some .boolean) prog_12_method_6_code evc_113 = true := by decide +kernel
set_option maxRecDepth 100000 in
theorem ex_113 : evx_113 = evc_113.map ev_x := rfl
theorem em_113 : ev_P 113 (⟨"MeadowSignsModel", "isGood", "()Z"⟩, prog_12_method_6_code, 1, some .boolean) := ⟨_, _, rfl, (show ev_tget 8 ev_XT 113 id = (1, evx_113) from rfl).trans (congrArg (Prod.mk 1) ex_113), ev_chk_ok _ ek_113, by decide +kernel⟩
set_option maxRecDepth 100000 in
theorem ek_114 : ev_chk ev_MT "MeadowSignsModel" false (none) prog_12_method_9_code evc_114 = true := by decide +kernel
set_option maxRecDepth 100000 in
theorem ex_114 : evx_114 = evc_114.map ev_x := rfl
theorem em_114 : ev_P 114 (⟨"MeadowSignsModel", "goOn", "()V"⟩, prog_12_method_9_code, 3, none) := ⟨_, _, rfl, (show ev_tget 8 ev_XT 114 id = (3, evx_114) from rfl).trans (congrArg (Prod.mk 3) ex_114), ev_chk_ok _ ek_114, by decide +kernel⟩
set_option maxRecDepth 100000 in
theorem ek_115 : ev_chk ev_MT "MeadowSignsModel" false (none) prog_12_method_17_code evc_115 = true := by decide +kernel
set_option maxRecDepth 100000 in
theorem ex_115 : evx_115 = evc_115.map ev_x := rfl
theorem em_115 : ev_P 115 (⟨"MeadowSignsModel", "clearBank", "()V"⟩, prog_12_method_17_code, 2, none) := ⟨_, _, rfl, (show ev_tget 8 ev_XT 115 id = (2, evx_115) from rfl).trans (congrArg (Prod.mk 2) ex_115), ev_chk_ok _ ek_115, by decide +kernel⟩
set_option maxRecDepth 100000 in
theorem ek_116 : ev_chk ev_MT "MeadowSignsModel" false (some .int) prog_12_method_18_code evc_116 = true := by decide +kernel
set_option maxRecDepth 100000 in
theorem ex_116 : evx_116 = evc_116.map ev_x := rfl
theorem em_116 : ev_P 116 (⟨"MeadowSignsModel", "meadow", "()I"⟩, prog_12_method_18_code, 2, some .int) := ⟨_, _, rfl, (show ev_tget 8 ev_XT 116 id = (2, evx_116) from rfl).trans (congrArg (Prod.mk 2) ex_116), ev_chk_ok _ ek_116, by decide +kernel⟩
set_option maxRecDepth 100000 in
theorem ek_117 : ev_chk ev_MT "MeadowSignsModel" false (some .int) prog_12_method_44_code evc_117 = true := by decide +kernel
set_option maxRecDepth 100000 in
theorem ex_117 : evx_117 = evc_117.map ev_x := rfl
theorem em_117 : ev_P 117 (⟨"MeadowSignsModel", "fault", "(I)I"⟩, prog_12_method_44_code, 2, some .int) := ⟨_, _, rfl, (show ev_tget 8 ev_XT 117 id = (2, evx_117) from rfl).trans (congrArg (Prod.mk 2) ex_117), ev_chk_ok _ ek_117, by decide +kernel⟩
set_option maxRecDepth 100000 in
theorem ek_118 : ev_chk ev_MT "MeadowSignsModel" false (some .boolean) prog_12_method_45_code evc_118 = true := by decide +kernel
set_option maxRecDepth 100000 in
theorem ex_118 : evx_118 = evc_118.map ev_x := rfl
theorem em_118 : ev_P 118 (⟨"MeadowSignsModel", "isIn", "(III)Z"⟩, prog_12_method_45_code, 3, some .boolean) := ⟨_, _, rfl, (show ev_tget 8 ev_XT 118 id = (3, evx_118) from rfl).trans (congrArg (Prod.mk 3) ex_118), ev_chk_ok _ ek_118, by decide +kernel⟩
set_option maxRecDepth 100000 in
theorem ek_119 : ev_chk ev_MT "MeadowSignsModel" false (some .int) prog_12_method_47_code evc_119 = true := by decide +kernel
set_option maxRecDepth 100000 in
theorem ex_119 : evx_119 = evc_119.map ev_x := rfl
theorem em_119 : ev_P 119 (⟨"MeadowSignsModel", "bitsOf", "(I)I"⟩, prog_12_method_47_code, 3, some .int) := ⟨_, _, rfl, (show ev_tget 8 ev_XT 119 id = (3, evx_119) from rfl).trans (congrArg (Prod.mk 3) ex_119), ev_chk_ok _ ek_119, by decide +kernel⟩
set_option maxRecDepth 100000 in
theorem ek_120 : ev_chk ev_MT "MeadowSignsModel" false (some .boolean) prog_12_method_48_code evc_120 = true := by decide +kernel
set_option maxRecDepth 100000 in
theorem ex_120 : evx_120 = evc_120.map ev_x := rfl
theorem em_120 : ev_P 120 (⟨"MeadowSignsModel", "has", "(II)Z"⟩, prog_12_method_48_code, 2, some .boolean) := ⟨_, _, rfl, (show ev_tget 8 ev_XT 120 id = (2, evx_120) from rfl).trans (congrArg (Prod.mk 2) ex_120), ev_chk_ok _ ek_120, by decide +kernel⟩
set_option maxRecDepth 100000 in
theorem ek_121 : ev_chk ev_MT "MeadowSignsModel" false (some .int) prog_12_method_49_code evc_121 = true := by decide +kernel
set_option maxRecDepth 100000 in
theorem ex_121 : evx_121 = evc_121.map ev_x := rfl
theorem em_121 : ev_P 121 (⟨"MeadowSignsModel", "width", "()I"⟩, prog_12_method_49_code, 1, some .int) := ⟨_, _, rfl, (show ev_tget 8 ev_XT 121 id = (1, evx_121) from rfl).trans (congrArg (Prod.mk 1) ex_121), ev_chk_ok _ ek_121, by decide +kernel⟩
set_option maxRecDepth 100000 in
theorem ek_122 : ev_chk ev_MT "MeadowSignsModel" false (some .int) prog_12_method_50_code evc_122 = true := by decide +kernel
set_option maxRecDepth 100000 in
theorem ex_122 : evx_122 = evc_122.map ev_x := rfl
theorem em_122 : ev_P 122 (⟨"MeadowSignsModel", "many", "()I"⟩, prog_12_method_50_code, 1, some .int) := ⟨_, _, rfl, (show ev_tget 8 ev_XT 122 id = (1, evx_122) from rfl).trans (congrArg (Prod.mk 1) ex_122), ev_chk_ok _ ek_122, by decide +kernel⟩
set_option maxRecDepth 100000 in
theorem ek_123 : ev_chk ev_MT "MeadowSignsModel" false (some .boolean) prog_12_method_51_code evc_123 = true := by decide +kernel
set_option maxRecDepth 100000 in
theorem ex_123 : evx_123 = evc_123.map ev_x := rfl
theorem em_123 : ev_P 123 (⟨"MeadowSignsModel", "isCell", "(I)Z"⟩, prog_12_method_51_code, 2, some .boolean) := ⟨_, _, rfl, (show ev_tget 8 ev_XT 123 id = (2, evx_123) from rfl).trans (congrArg (Prod.mk 2) ex_123), ev_chk_ok _ ek_123, by decide +kernel⟩
set_option maxRecDepth 100000 in
theorem ek_124 : ev_chk ev_MT "MeadowSignsModel" false (some .boolean) prog_12_method_52_code evc_124 = true := by decide +kernel
set_option maxRecDepth 100000 in
theorem ex_124 : evx_124 = evc_124.map ev_x := rfl
theorem em_124 : ev_P 124 (⟨"MeadowSignsModel", "isGlyph", "(I)Z"⟩, prog_12_method_52_code, 2, some .boolean) := ⟨_, _, rfl, (show ev_tget 8 ev_XT 124 id = (2, evx_124) from rfl).trans (congrArg (Prod.mk 2) ex_124), ev_chk_ok _ ek_124, by decide +kernel⟩
set_option maxRecDepth 100000 in
theorem ek_125 : ev_chk ev_MT "MeadowSignsModel" false (some .boolean) prog_12_method_53_code evc_125 = true := by decide +kernel
set_option maxRecDepth 100000 in
theorem ex_125 : evx_125 = evc_125.map ev_x := rfl
theorem em_125 : ev_P 125 (⟨"MeadowSignsModel", "isThing", "(I)Z"⟩, prog_12_method_53_code, 2, some .boolean) := ⟨_, _, rfl, (show ev_tget 8 ev_XT 125 id = (2, evx_125) from rfl).trans (congrArg (Prod.mk 2) ex_125), ev_chk_ok _ ek_125, by decide +kernel⟩
set_option maxRecDepth 100000 in
theorem ek_126 : ev_chk ev_MT "MeadowSignsModel" false (some .int) prog_12_method_54_code evc_126 = true := by decide +kernel
set_option maxRecDepth 100000 in
theorem ex_126 : evx_126 = evc_126.map ev_x := rfl
theorem em_126 : ev_P 126 (⟨"MeadowSignsModel", "mown", "()I"⟩, prog_12_method_54_code, 3, some .int) := ⟨_, _, rfl, (show ev_tget 8 ev_XT 126 id = (3, evx_126) from rfl).trans (congrArg (Prod.mk 3) ex_126), ev_chk_ok _ ek_126, by decide +kernel⟩
set_option maxRecDepth 100000 in
theorem ek_127 : ev_chk ev_MT "MeadowSignsModel" false (some .int) prog_12_method_55_code evc_127 = true := by decide +kernel
set_option maxRecDepth 100000 in
theorem ex_127 : evx_127 = evc_127.map ev_x := rfl
theorem em_127 : ev_P 127 (⟨"MeadowSignsModel", "looks", "()I"⟩, prog_12_method_55_code, 1, some .int) := ⟨_, _, rfl, (show ev_tget 8 ev_XT 127 id = (1, evx_127) from rfl).trans (congrArg (Prod.mk 1) ex_127), ev_chk_ok _ ek_127, by decide +kernel⟩
