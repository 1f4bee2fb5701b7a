/-! the check, methods 128 on -/
set_option maxRecDepth 100000 in
theorem ek_128 : ev_chk ev_MT "MeadowSignsModel" false (some .int) prog_12_method_56_code evc_128 = true := by decide +kernel
set_option maxRecDepth 100000 in
theorem ex_128 : evx_128 = evc_128.map ev_x := rfl
theorem em_128 : ev_P 128 (⟨"MeadowSignsModel", "openCells", "()I"⟩, prog_12_method_56_code, 1, some .int) := ⟨_, _, rfl, (show ev_tget 8 ev_XT 128 id = (1, evx_128) from rfl).trans (congrArg (Prod.mk 1) ex_128), ev_chk_ok _ ek_128, by decide +kernel⟩
set_option maxRecDepth 100000 in
theorem ek_129 : ev_chk ev_MT "MeadowSignsModel" false (none) prog_12_method_57_code evc_129 = true := by decide +kernel
set_option maxRecDepth 100000 in
theorem ex_129 : evx_129 = evc_129.map ev_x := rfl
theorem em_129 : ev_P 129 (⟨"MeadowSignsModel", "startAnew", "()V"⟩, prog_12_method_57_code, 2, none) := ⟨_, _, rfl, (show ev_tget 8 ev_XT 129 id = (2, evx_129) from rfl).trans (congrArg (Prod.mk 2) ex_129), ev_chk_ok _ ek_129, by decide +kernel⟩
set_option maxRecDepth 100000 in
theorem ek_130 : ev_chk ev_MT "MeadowSignsModel" false (none) prog_12_method_58_code evc_130 = true := by decide +kernel
set_option maxRecDepth 100000 in
theorem ex_130 : evx_130 = evc_130.map ev_x := rfl
theorem em_130 : ev_P 130 (⟨"MeadowSignsModel", "layWeights", "()V"⟩, prog_12_method_58_code, 4, none) := ⟨_, _, rfl, (show ev_tget 8 ev_XT 130 id = (4, evx_130) from rfl).trans (congrArg (Prod.mk 4) ex_130), ev_chk_ok _ ek_130, by decide +kernel⟩
set_option maxRecDepth 100000 in
theorem ek_131 : ev_chk ev_MT "MeadowSignsModel" false (some .int) prog_12_method_61_code evc_131 = true := by decide +kernel
set_option maxRecDepth 100000 in
theorem ex_131 : evx_131 = evc_131.map ev_x := rfl
theorem em_131 : ev_P 131 (⟨"MeadowSignsModel", "place", "(II)I"⟩, prog_12_method_61_code, 2, some .int) := ⟨_, _, rfl, (show ev_tget 8 ev_XT 131 id = (2, evx_131) from rfl).trans (congrArg (Prod.mk 2) ex_131), ev_chk_ok _ ek_131, by decide +kernel⟩
set_option maxRecDepth 100000 in
theorem ek_132 : ev_chk ev_MT "MeadowSignsModel" false (some .int) prog_12_method_62_code evc_132 = true := by decide +kernel
set_option maxRecDepth 100000 in
theorem ex_132 : evx_132 = evc_132.map ev_x := rfl
theorem em_132 : ev_P 132 (⟨"MeadowSignsModel", "sumWays", "(II)I"⟩, prog_12_method_62_code, 3, some .int) := ⟨_, _, rfl, (show ev_tget 8 ev_XT 132 id = (3, evx_132) from rfl).trans (congrArg (Prod.mk 3) ex_132), ev_chk_ok _ ek_132, by decide +kernel⟩
set_option maxRecDepth 100000 in
theorem ek_133 : ev_chk ev_MT "MeadowSignsModel" false (none) prog_12_method_63_code evc_133 = true := by decide +kernel
set_option maxRecDepth 100000 in
theorem ex_133 : evx_133 = evc_133.map ev_x := rfl
theorem em_133 : ev_P 133 (⟨"MeadowSignsModel", "layFrom", "(III)V"⟩, prog_12_method_63_code, 8, none) := ⟨_, _, rfl, (show ev_tget 8 ev_XT 133 id = (8, evx_133) from rfl).trans (congrArg (Prod.mk 8) ex_133), ev_chk_ok _ ek_133, by decide +kernel⟩
set_option maxRecDepth 100000 in
theorem ek_134 : ev_chk ev_MT "MeadowSignsModel" false (some .int) prog_12_method_64_code evc_134 = true := by decide +kernel
set_option maxRecDepth 100000 in
theorem ex_134 : evx_134 = evc_134.map ev_x := rfl
theorem em_134 : ev_P 134 (⟨"MeadowSignsModel", "read", "(I)I"⟩, prog_12_method_64_code, 5, some .int) := ⟨_, _, rfl, (show ev_tget 8 ev_XT 134 id = (5, evx_134) from rfl).trans (congrArg (Prod.mk 5) ex_134), ev_chk_ok _ ek_134, by decide +kernel⟩
set_option maxRecDepth 100000 in
theorem ek_135 : ev_chk ev_MT "MeadowSignsModel" false (some .int) prog_12_method_65_code evc_135 = true := by decide +kernel
set_option maxRecDepth 100000 in
theorem ex_135 : evx_135 = evc_135.map ev_x := rfl
theorem em_135 : ev_P 135 (⟨"MeadowSignsModel", "nextAt", "(III)I"⟩, prog_12_method_65_code, 6, some .int) := ⟨_, _, rfl, (show ev_tget 8 ev_XT 135 id = (6, evx_135) from rfl).trans (congrArg (Prod.mk 6) ex_135), ev_chk_ok _ ek_135, by decide +kernel⟩
set_option maxRecDepth 100000 in
theorem ek_136 : ev_chk ev_MT "MeadowSignsModel" false (some .int) prog_12_method_66_code evc_136 = true := by decide +kernel
set_option maxRecDepth 100000 in
theorem ex_136 : evx_136 = evc_136.map ev_x := rfl
theorem em_136 : ev_P 136 (⟨"MeadowSignsModel", "waysOf", "()I"⟩, prog_12_method_66_code, 1, some .int) := ⟨_, _, rfl, (show ev_tget 8 ev_XT 136 id = (1, evx_136) from rfl).trans (congrArg (Prod.mk 1) ex_136), ev_chk_ok _ ek_136, by decide +kernel⟩
set_option maxRecDepth 100000 in
theorem ek_137 : ev_chk ev_MT "MeadowSignsModel" false (some .int) prog_12_method_67_code evc_137 = true := by decide +kernel
set_option maxRecDepth 100000 in
theorem ex_137 : evx_137 = evc_137.map ev_x := rfl
theorem em_137 : ev_P 137 (⟨"MeadowSignsModel", "readNow", "()I"⟩, prog_12_method_67_code, 1, some .int) := ⟨_, _, rfl, (show ev_tget 8 ev_XT 137 id = (1, evx_137) from rfl).trans (congrArg (Prod.mk 1) ex_137), ev_chk_ok _ ek_137, by decide +kernel⟩
set_option maxRecDepth 100000 in
theorem ek_138 : ev_chk ev_MT "MeadowSignsModel" false (some .boolean) prog_12_method_69_code evc_138 = true := by decide +kernel
set_option maxRecDepth 100000 in
theorem ex_138 : evx_138 = evc_138.map ev_x := rfl
theorem em_138 : ev_P 138 (⟨"MeadowSignsModel", "isHarm", "()Z"⟩, prog_12_method_69_code, 2, some .boolean) := ⟨_, _, rfl, (show ev_tget 8 ev_XT 138 id = (2, evx_138) from rfl).trans (congrArg (Prod.mk 2) ex_138), ev_chk_ok _ ek_138, by decide +kernel⟩
set_option maxRecDepth 100000 in
theorem ek_139 : ev_chk ev_MT "MeadowSignsModel" false (some .int) prog_12_method_70_code evc_139 = true := by decide +kernel
set_option maxRecDepth 100000 in
theorem ex_139 : evx_139 = evc_139.map ev_x := rfl
theorem em_139 : ev_P 139 (⟨"MeadowSignsModel", "thing", "(I)I"⟩, prog_12_method_70_code, 2, some .int) := ⟨_, _, rfl, (show ev_tget 8 ev_XT 139 id = (2, evx_139) from rfl).trans (congrArg (Prod.mk 2) ex_139), ev_chk_ok _ ek_139, by decide +kernel⟩
set_option maxRecDepth 100000 in
theorem ek_140 : ev_chk ev_MT "MeadowSignsModel" false (some .int) prog_12_method_71_code evc_140 = true := by decide +kernel
set_option maxRecDepth 100000 in
theorem ex_140 : evx_140 = evc_140.map ev_x := rfl
theorem em_140 : ev_P 140 (⟨"MeadowSignsModel", "glyph", "(II)I"⟩, prog_12_method_71_code, 4, some .int) := ⟨_, _, rfl, (show ev_tget 8 ev_XT 140 id = (4, evx_140) from rfl).trans (congrArg (Prod.mk 4) ex_140), ev_chk_ok _ ek_140, by decide +kernel⟩
set_option maxRecDepth 100000 in
theorem ek_141 : ev_chk ev_MT "MeadowSignsModel" false (some .int) prog_12_method_73_code evc_141 = true := by decide +kernel
set_option maxRecDepth 100000 in
theorem ex_141 : evx_141 = evc_141.map ev_x := rfl
theorem em_141 : ev_P 141 (⟨"MeadowSignsModel", "signAt", "(I)I"⟩, prog_12_method_73_code, 3, some .int) := ⟨_, _, rfl, (show ev_tget 8 ev_XT 141 id = (3, evx_141) from rfl).trans (congrArg (Prod.mk 3) ex_141), ev_chk_ok _ ek_141, by decide +kernel⟩
set_option maxRecDepth 100000 in
theorem ek_142 : ev_chk ev_MT "MeadowSignsModel" false (some .int) prog_12_method_74_code evc_142 = true := by decide +kernel
set_option maxRecDepth 100000 in
theorem ex_142 : evx_142 = evc_142.map ev_x := rfl
theorem em_142 : ev_P 142 (⟨"MeadowSignsModel", "plot", "(II)I"⟩, prog_12_method_74_code, 3, some .int) := ⟨_, _, rfl, (show ev_tget 8 ev_XT 142 id = (3, evx_142) from rfl).trans (congrArg (Prod.mk 3) ex_142), ev_chk_ok _ ek_142, by decide +kernel⟩
set_option maxRecDepth 100000 in
theorem ek_143 : ev_chk ev_MT "MeadowSignsModel" false (none) prog_12_method_75_code evc_143 = true := by decide +kernel
set_option maxRecDepth 100000 in
theorem ex_143 : evx_143 = evc_143.map ev_x := rfl
theorem em_143 : ev_P 143 (⟨"MeadowSignsModel", "keepAct", "()V"⟩, prog_12_method_75_code, 2, none) := ⟨_, _, rfl, (show ev_tget 8 ev_XT 143 id = (2, evx_143) from rfl).trans (congrArg (Prod.mk 2) ex_143), ev_chk_ok _ ek_143, by decide +kernel⟩
set_option maxRecDepth 100000 in
theorem ek_144 : ev_chk ev_MT "MeadowSignsModel" false (some .int) prog_12_method_77_code evc_144 = true := by decide +kernel
set_option maxRecDepth 100000 in
theorem ex_144 : evx_144 = evc_144.map ev_x := rfl
theorem em_144 : ev_P 144 (⟨"MeadowSignsModel", "mow", "(I)I"⟩, prog_12_method_77_code, 2, some .int) := ⟨_, _, rfl, (show ev_tget 8 ev_XT 144 id = (2, evx_144) from rfl).trans (congrArg (Prod.mk 2) ex_144), ev_chk_ok _ ek_144, by decide +kernel⟩
set_option maxRecDepth 100000 in
theorem ek_145 : ev_chk ev_MT "MeadowSignsModel" false (some .int) prog_12_method_78_code evc_145 = true := by decide +kernel
set_option maxRecDepth 100000 in
theorem ex_145 : evx_145 = evc_145.map ev_x := rfl
theorem em_145 : ev_P 145 (⟨"MeadowSignsModel", "sow", "(I)I"⟩, prog_12_method_78_code, 2, some .int) := ⟨_, _, rfl, (show ev_tget 8 ev_XT 145 id = (2, evx_145) from rfl).trans (congrArg (Prod.mk 2) ex_145), ev_chk_ok _ ek_145, by decide +kernel⟩
set_option maxRecDepth 100000 in
theorem ek_146 : ev_chk ev_MT "MeadowSignsModel" false (some .int) prog_12_method_79_code evc_146 = true := by decide +kernel
set_option maxRecDepth 100000 in
theorem ex_146 : evx_146 = evc_146.map ev_x := rfl
theorem em_146 : ev_P 146 (⟨"MeadowSignsModel", "goYear", "()I"⟩, prog_12_method_79_code, 4, some .int) := ⟨_, _, rfl, (show ev_tget 8 ev_XT 146 id = (4, evx_146) from rfl).trans (congrArg (Prod.mk 4) ex_146), ev_chk_ok _ ek_146, by decide +kernel⟩
set_option maxRecDepth 100000 in
theorem ek_147 : ev_chk ev_MT "MeadowSignsModel" false (some .int) prog_12_method_80_code evc_147 = true := by decide +kernel
set_option maxRecDepth 100000 in
theorem ex_147 : evx_147 = evc_147.map ev_x := rfl
theorem em_147 : ev_P 147 (⟨"MeadowSignsModel", "year", "()I"⟩, prog_12_method_80_code, 1, some .int) := ⟨_, _, rfl, (show ev_tget 8 ev_XT 147 id = (1, evx_147) from rfl).trans (congrArg (Prod.mk 1) ex_147), ev_chk_ok _ ek_147, by decide +kernel⟩
set_option maxRecDepth 100000 in
theorem ek_148 : ev_chk ev_MT "MeadowSignsModel" false (some .boolean) prog_12_method_81_code evc_148 = true := by decide +kernel
set_option maxRecDepth 100000 in
theorem ex_148 : evx_148 = evc_148.map ev_x := rfl
theorem em_148 : ev_P 148 (⟨"MeadowSignsModel", "undo", "()Z"⟩, prog_12_method_81_code, 1, some .boolean) := ⟨_, _, rfl, (show ev_tget 8 ev_XT 148 id = (1, evx_148) from rfl).trans (congrArg (Prod.mk 1) ex_148), ev_chk_ok _ ek_148, by decide +kernel⟩
set_option maxRecDepth 100000 in
theorem ek_149 : ev_chk ev_MT "MeadowSignsModel" false (some .boolean) prog_12_method_82_code evc_149 = true := by decide +kernel
set_option maxRecDepth 100000 in
theorem ex_149 : evx_149 = evc_149.map ev_x := rfl
theorem em_149 : ev_P 149 (⟨"MeadowSignsModel", "redo", "()Z"⟩, prog_12_method_82_code, 1, some .boolean) := ⟨_, _, rfl, (show ev_tget 8 ev_XT 149 id = (1, evx_149) from rfl).trans (congrArg (Prod.mk 1) ex_149), ev_chk_ok _ ek_149, by decide +kernel⟩
set_option maxRecDepth 100000 in
theorem ek_150 : ev_chk ev_MT "MeadowSignsModel" false (some .int) prog_12_method_83_code evc_150 = true := by decide +kernel
set_option maxRecDepth 100000 in
theorem ex_150 : evx_150 = evc_150.map ev_x := rfl
theorem em_150 : ev_P 150 (⟨"MeadowSignsModel", "readings", "()I"⟩, prog_12_method_83_code, 1, some .int) := ⟨_, _, rfl, (show ev_tget 8 ev_XT 150 id = (1, evx_150) from rfl).trans (congrArg (Prod.mk 1) ex_150), ev_chk_ok _ ek_150, by decide +kernel⟩
set_option maxRecDepth 100000 in
theorem ek_151 : ev_chk ev_MT "MeadowSignsModel" false (some .int) prog_12_method_84_code evc_151 = true := by decide +kernel
set_option maxRecDepth 100000 in
theorem ex_151 : evx_151 = evc_151.map ev_x := rfl
theorem em_151 : ev_P 151 (⟨"MeadowSignsModel", "lies", "(I)I"⟩, prog_12_method_84_code, 2, some .int) := ⟨_, _, rfl, (show ev_tget 8 ev_XT 151 id = (2, evx_151) from rfl).trans (congrArg (Prod.mk 2) ex_151), ev_chk_ok _ ek_151, by decide +kernel⟩
set_option maxRecDepth 100000 in
theorem ek_152 : ev_chk ev_MT "MeadowSignsModel" false (some .int) prog_12_method_85_code evc_152 = true := by decide +kernel
set_option maxRecDepth 100000 in
theorem ex_152 : evx_152 = evc_152.map ev_x := rfl
theorem em_152 : ev_P 152 (⟨"MeadowSignsModel", "taken", "()I"⟩, prog_12_method_85_code, 3, some .int) := ⟨_, _, rfl, (show ev_tget 8 ev_XT 152 id = (3, evx_152) from rfl).trans (congrArg (Prod.mk 3) ex_152), ev_chk_ok _ ek_152, by decide +kernel⟩
set_option maxRecDepth 100000 in
theorem ek_153 : ev_chk ev_MT "MeadowSignsModel" false (some .int) prog_12_method_86_code evc_153 = true := by decide +kernel
set_option maxRecDepth 100000 in
theorem ex_153 : evx_153 = evc_153.map ev_x := rfl
theorem em_153 : ev_P 153 (⟨"MeadowSignsModel", "weight", "()I"⟩, prog_12_method_86_code, 1, some .int) := ⟨_, _, rfl, (show ev_tget 8 ev_XT 153 id = (1, evx_153) from rfl).trans (congrArg (Prod.mk 1) ex_153), ev_chk_ok _ ek_153, by decide +kernel⟩
set_option maxRecDepth 100000 in
theorem ek_154 : ev_chk ev_MT "MeadowSignsModel" false (some .int) prog_12_method_87_code evc_154 = true := by decide +kernel
set_option maxRecDepth 100000 in
theorem ex_154 : evx_154 = evc_154.map ev_x := rfl
theorem em_154 : ev_P 154 (⟨"MeadowSignsModel", "does", "(I)I"⟩, prog_12_method_87_code, 2, some .int) := ⟨_, _, rfl, (show ev_tget 8 ev_XT 154 id = (2, evx_154) from rfl).trans (congrArg (Prod.mk 2) ex_154), ev_chk_ok _ ek_154, by decide +kernel⟩
set_option maxRecDepth 100000 in
theorem ek_155 : ev_chk ev_MT "MeadowSignsModel" false (none) prog_12_method_88_code evc_155 = true := by decide +kernel
set_option maxRecDepth 100000 in
theorem ex_155 : evx_155 = evc_155.map ev_x := rfl
theorem em_155 : ev_P 155 (⟨"MeadowSignsModel", "goYears", "(I)V"⟩, prog_12_method_88_code, 3, none) := ⟨_, _, rfl, (show ev_tget 8 ev_XT 155 id = (3, evx_155) from rfl).trans (congrArg (Prod.mk 3) ex_155), ev_chk_ok _ ek_155, by decide +kernel⟩
set_option maxRecDepth 100000 in
theorem ek_156 : ev_chk ev_MT "MeadowSignsModel" false (none) prog_12_method_89_code evc_156 = true := by decide +kernel
set_option maxRecDepth 100000 in
theorem ex_156 : evx_156 = evc_156.map ev_x := rfl
theorem em_156 : ev_P 156 (⟨"MeadowSignsModel", "bringBack", "()V"⟩, prog_12_method_89_code, 2, none) := ⟨_, _, rfl, (show ev_tget 8 ev_XT 156 id = (2, evx_156) from rfl).trans (congrArg (Prod.mk 2) ex_156), ev_chk_ok _ ek_156, by decide +kernel⟩
set_option maxRecDepth 100000 in
theorem ek_157 : ev_chk ev_MT "MeadowSignsModel" false (some .int) prog_12_method_90_code evc_157 = true := by decide +kernel
set_option maxRecDepth 100000 in
theorem ex_157 : evx_157 = evc_157.map ev_x := rfl
theorem em_157 : ev_P 157 (⟨"MeadowSignsModel", "will", "(II)I"⟩, prog_12_method_90_code, 4, some .int) := ⟨_, _, rfl, (show ev_tget 8 ev_XT 157 id = (4, evx_157) from rfl).trans (congrArg (Prod.mk 4) ex_157), ev_chk_ok _ ek_157, by decide +kernel⟩
set_option maxRecDepth 100000 in
theorem ek_158 : ev_chk ev_MT "MeadowSignsModel" false (some .int) prog_12_method_91_code evc_158 = true := by decide +kernel
set_option maxRecDepth 100000 in
theorem ex_158 : evx_158 = evc_158.map ev_x := rfl
theorem em_158 : ev_P 158 (⟨"MeadowSignsModel", "field", "(I)I"⟩, prog_12_method_91_code, 3, some .int) := ⟨_, _, rfl, (show ev_tget 8 ev_XT 158 id = (3, evx_158) from rfl).trans (congrArg (Prod.mk 3) ex_158), ev_chk_ok _ ek_158, by decide +kernel⟩
set_option maxRecDepth 100000 in
theorem ek_159 : ev_chk ev_MT "MeadowSignsModel" false (some .int) prog_12_method_92_code evc_159 = true := by decide +kernel
set_option maxRecDepth 100000 in
theorem ex_159 : evx_159 = evc_159.map ev_x := rfl
theorem em_159 : ev_P 159 (⟨"MeadowSignsModel", "harm", "()I"⟩, prog_12_method_92_code, 1, some .int) := ⟨_, _, rfl, (show ev_tget 8 ev_XT 159 id = (1, evx_159) from rfl).trans (congrArg (Prod.mk 1) ex_159), ev_chk_ok _ ek_159, by decide +kernel⟩
