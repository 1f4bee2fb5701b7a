/-! the check, methods 160 on -/
set_option maxRecDepth 100000 in
theorem ek_160 : ev_chk ev_MT "MeadowSignsModel" false (some .boolean) prog_12_method_93_code evc_160 = true := by decide +kernel
set_option maxRecDepth 100000 in
theorem ex_160 : evx_160 = evc_160.map ev_x := rfl
theorem em_160 : ev_P 160 (⟨"MeadowSignsModel", "isWanted", "(II)Z"⟩, prog_12_method_93_code, 4, some .boolean) := ⟨_, _, rfl, (show ev_tget 8 ev_XT 160 id = (4, evx_160) from rfl).trans (congrArg (Prod.mk 4) ex_160), ev_chk_ok _ ek_160, by decide +kernel⟩
set_option maxRecDepth 100000 in
theorem ek_161 : ev_chk ev_MT "MeadowSignsModel" false (some .int) prog_12_method_94_code evc_161 = true := by decide +kernel
set_option maxRecDepth 100000 in
theorem ex_161 : evx_161 = evc_161.map ev_x := rfl
theorem em_161 : ev_P 161 (⟨"MeadowSignsModel", "change", "(I)I"⟩, prog_12_method_94_code, 9, some .int) := ⟨_, _, rfl, (show ev_tget 8 ev_XT 161 id = (9, evx_161) from rfl).trans (congrArg (Prod.mk 9) ex_161), ev_chk_ok _ ek_161, by decide +kernel⟩
set_option maxRecDepth 100000 in
theorem ek_162 : ev_chk ev_MT "MeadowSignsModel" false (some .int) prog_12_method_95_code evc_162 = true := by decide +kernel
set_option maxRecDepth 100000 in
theorem ex_162 : evx_162 = evc_162.map ev_x := rfl
theorem em_162 : ev_P 162 (⟨"MeadowSignsModel", "turn", "(II)I"⟩, prog_12_method_95_code, 3, some .int) := ⟨_, _, rfl, (show ev_tget 8 ev_XT 162 id = (3, evx_162) from rfl).trans (congrArg (Prod.mk 3) ex_162), ev_chk_ok _ ek_162, by decide +kernel⟩
set_option maxRecDepth 100000 in
theorem ek_163 : ev_chk ev_MT "MeadowSignsModel" false (some .int) prog_12_method_96_code evc_163 = true := by decide +kernel
set_option maxRecDepth 100000 in
theorem ex_163 : evx_163 = evc_163.map ev_x := rfl
theorem em_163 : ev_P 163 (⟨"MeadowSignsModel", "plain", "()I"⟩, prog_12_method_96_code, 2, some .int) := ⟨_, _, rfl, (show ev_tget 8 ev_XT 163 id = (2, evx_163) from rfl).trans (congrArg (Prod.mk 2) ex_163), ev_chk_ok _ ek_163, by decide +kernel⟩
set_option maxRecDepth 100000 in
theorem ek_164 : ev_chk ev_MT "MeadowSignsModel" false (some .int) prog_12_method_97_code evc_164 = true := by decide +kernel
set_option maxRecDepth 100000 in
theorem ex_164 : evx_164 = evc_164.map ev_x := rfl
theorem em_164 : ev_P 164 (⟨"MeadowSignsModel", "orders", "(I)I"⟩, prog_12_method_97_code, 6, some .int) := ⟨_, _, rfl, (show ev_tget 8 ev_XT 164 id = (6, evx_164) from rfl).trans (congrArg (Prod.mk 6) ex_164), ev_chk_ok _ ek_164, by decide +kernel⟩
set_option maxRecDepth 100000 in
theorem ek_165 : ev_chk ev_MT "MeadowSignsModel" false (some .boolean) prog_12_method_98_code evc_165 = true := by decide +kernel
set_option maxRecDepth 100000 in
theorem ex_165 : evx_165 = evc_165.map ev_x := rfl
theorem em_165 : ev_P 165 (⟨"MeadowSignsModel", "isHarmBy", "(II)Z"⟩, prog_12_method_98_code, 5, some .boolean) := ⟨_, _, rfl, (show ev_tget 8 ev_XT 165 id = (5, evx_165) from rfl).trans (congrArg (Prod.mk 5) ex_165), ev_chk_ok _ ek_165, by decide +kernel⟩
set_option maxRecDepth 100000 in
theorem ek_166 : ev_chk ev_MT "MeadowSignsModel" false (none) prog_12_method_99_code evc_166 = true := by decide +kernel
set_option maxRecDepth 100000 in
theorem ex_166 : evx_166 = evc_166.map ev_x := rfl
theorem em_166 : ev_P 166 (⟨"MeadowSignsModel", "layOrder", "(II)V"⟩, prog_12_method_99_code, 5, none) := ⟨_, _, rfl, (show ev_tget 8 ev_XT 166 id = (5, evx_166) from rfl).trans (congrArg (Prod.mk 5) ex_166), ev_chk_ok _ ek_166, by decide +kernel⟩
set_option maxRecDepth 100000 in
theorem ek_167 : ev_chk ev_MT "MeadowSignsModel" false (some .int) prog_12_method_103_code evc_167 = true := by decide +kernel
set_option maxRecDepth 100000 in
theorem ex_167 : evx_167 = evc_167.map ev_x := rfl
theorem em_167 : ev_P 167 (⟨"MeadowSignsModel", "write", "(III)I"⟩, prog_12_method_103_code, 9, some .int) := ⟨_, _, rfl, (show ev_tget 8 ev_XT 167 id = (9, evx_167) from rfl).trans (congrArg (Prod.mk 9) ex_167), ev_chk_ok _ ek_167, by decide +kernel⟩
set_option maxRecDepth 100000 in
theorem ek_168 : ev_chk ev_MT "MeadowSignsModel" false (some .int) prog_12_method_104_code evc_168 = true := by decide +kernel
set_option maxRecDepth 100000 in
theorem ex_168 : evx_168 = evc_168.map ev_x := rfl
theorem em_168 : ev_P 168 (⟨"MeadowSignsModel", "watch", "()I"⟩, prog_12_method_104_code, 3, some .int) := ⟨_, _, rfl, (show ev_tget 8 ev_XT 168 id = (3, evx_168) from rfl).trans (congrArg (Prod.mk 3) ex_168), ev_chk_ok _ ek_168, by decide +kernel⟩
set_option maxRecDepth 100000 in
theorem ek_169 : ev_chk ev_MT "MeadowSignsModel" false (some .int) prog_12_method_105_code evc_169 = true := by decide +kernel
set_option maxRecDepth 100000 in
theorem ex_169 : evx_169 = evc_169.map ev_x := rfl
theorem em_169 : ev_P 169 (⟨"MeadowSignsModel", "cows", "(II)I"⟩, prog_12_method_105_code, 6, some .int) := ⟨_, _, rfl, (show ev_tget 8 ev_XT 169 id = (6, evx_169) from rfl).trans (congrArg (Prod.mk 6) ex_169), ev_chk_ok _ ek_169, by decide +kernel⟩
set_option maxRecDepth 100000 in
theorem ek_170 : ev_chk ev_MT "MeadowSignsModel" false (some .int) prog_12_method_108_code evc_170 = true := by decide +kernel
set_option maxRecDepth 100000 in
theorem ex_170 : evx_170 = evc_170.map ev_x := rfl
theorem em_170 : ev_P 170 (⟨"MeadowSignsModel", "duel", "(IIII)I"⟩, prog_12_method_108_code, 10, some .int) := ⟨_, _, rfl, (show ev_tget 8 ev_XT 170 id = (10, evx_170) from rfl).trans (congrArg (Prod.mk 10) ex_170), ev_chk_ok _ ek_170, by decide +kernel⟩
set_option maxRecDepth 100000 in
theorem ek_171 : ev_chk ev_MT "MeadowSignsModel" false (some .int) prog_12_method_109_code evc_171 = true := by decide +kernel
set_option maxRecDepth 100000 in
theorem ex_171 : evx_171 = evc_171.map ev_x := rfl
theorem em_171 : ev_P 171 (⟨"MeadowSignsModel", "firsts", "()I"⟩, prog_12_method_109_code, 1, some .int) := ⟨_, _, rfl, (show ev_tget 8 ev_XT 171 id = (1, evx_171) from rfl).trans (congrArg (Prod.mk 1) ex_171), ev_chk_ok _ ek_171, by decide +kernel⟩
set_option maxRecDepth 100000 in
theorem ek_172 : ev_chk ev_MT "MeadowSignsModel" false (some .boolean) prog_12_method_110_code evc_172 = true := by decide +kernel
set_option maxRecDepth 100000 in
theorem ex_172 : evx_172 = evc_172.map ev_x := rfl
theorem em_172 : ev_P 172 (⟨"MeadowSignsModel", "isFirst", "(I)Z"⟩, prog_12_method_110_code, 2, some .boolean) := ⟨_, _, rfl, (show ev_tget 8 ev_XT 172 id = (2, evx_172) from rfl).trans (congrArg (Prod.mk 2) ex_172), ev_chk_ok _ ek_172, by decide +kernel⟩
set_option maxRecDepth 100000 in
theorem ek_173 : ev_chk ev_MT "MeadowSignsModel" false (some .int) prog_12_method_112_code evc_173 = true := by decide +kernel
set_option maxRecDepth 100000 in
theorem ex_173 : evx_173 = evc_173.map ev_x := rfl
theorem em_173 : ev_P 173 (⟨"MeadowSignsModel", "heard", "(IIIZ)I"⟩, prog_12_method_112_code, 5, some .int) := ⟨_, _, rfl, (show ev_tget 8 ev_XT 173 id = (5, evx_173) from rfl).trans (congrArg (Prod.mk 5) ex_173), ev_chk_ok _ ek_173, by decide +kernel⟩
set_option maxRecDepth 100000 in
theorem ek_174 : ev_chk ev_MT "MeadowSignsModel" false (some .boolean) prog_12_method_113_code evc_174 = true := by decide +kernel
set_option maxRecDepth 100000 in
theorem ex_174 : evx_174 = evc_174.map ev_x := rfl
theorem em_174 : ev_P 174 (⟨"MeadowSignsModel", "untell", "(I)Z"⟩, prog_12_method_113_code, 2, some .boolean) := ⟨_, _, rfl, (show ev_tget 8 ev_XT 174 id = (2, evx_174) from rfl).trans (congrArg (Prod.mk 2) ex_174), ev_chk_ok _ ek_174, by decide +kernel⟩
set_option maxRecDepth 100000 in
theorem ek_175 : ev_chk ev_MT "MeadowSignsModel" false (some .int) prog_12_method_114_code evc_175 = true := by decide +kernel
set_option maxRecDepth 100000 in
theorem ex_175 : evx_175 = evc_175.map ev_x := rfl
theorem em_175 : ev_P 175 (⟨"MeadowSignsModel", "later", "(I)I"⟩, prog_12_method_114_code, 2, some .int) := ⟨_, _, rfl, (show ev_tget 8 ev_XT 175 id = (2, evx_175) from rfl).trans (congrArg (Prod.mk 2) ex_175), ev_chk_ok _ ek_175, by decide +kernel⟩
set_option maxRecDepth 100000 in
theorem ek_176 : ev_chk ev_MT "MeadowSignsModel" false (some .boolean) prog_12_method_115_code evc_176 = true := by decide +kernel
set_option maxRecDepth 100000 in
theorem ex_176 : evx_176 = evc_176.map ev_x := rfl
theorem em_176 : ev_P 176 (⟨"MeadowSignsModel", "doesFit", "(II)Z"⟩, prog_12_method_115_code, 5, some .boolean) := ⟨_, _, rfl, (show ev_tget 8 ev_XT 176 id = (5, evx_176) from rfl).trans (congrArg (Prod.mk 5) ex_176), ev_chk_ok _ ek_176, by decide +kernel⟩
set_option maxRecDepth 100000 in
theorem ek_177 : ev_chk ev_MT "MeadowSignsModel" false (none) prog_12_method_116_code evc_177 = true := by decide +kernel
set_option maxRecDepth 100000 in
theorem ex_177 : evx_177 = evc_177.map ev_x := rfl
theorem em_177 : ev_P 177 (⟨"MeadowSignsModel", "layFit", "(I)V"⟩, prog_12_method_116_code, 5, none) := ⟨_, _, rfl, (show ev_tget 8 ev_XT 177 id = (5, evx_177) from rfl).trans (congrArg (Prod.mk 5) ex_177), ev_chk_ok _ ek_177, by decide +kernel⟩
set_option maxRecDepth 100000 in
theorem ek_178 : ev_chk ev_MT "MeadowSignsModel" false (some .int) prog_12_method_117_code evc_178 = true := by decide +kernel
set_option maxRecDepth 100000 in
theorem ex_178 : evx_178 = evc_178.map ev_x := rfl
theorem em_178 : ev_P 178 (⟨"MeadowSignsModel", "fit", "(I)I"⟩, prog_12_method_117_code, 2, some .int) := ⟨_, _, rfl, (show ev_tget 8 ev_XT 178 id = (2, evx_178) from rfl).trans (congrArg (Prod.mk 2) ex_178), ev_chk_ok _ ek_178, by decide +kernel⟩
set_option maxRecDepth 100000 in
theorem ek_179 : ev_chk ev_MT "MeadowSignsModel" false (some .int) prog_12_method_118_code evc_179 = true := by decide +kernel
set_option maxRecDepth 100000 in
theorem ex_179 : evx_179 = evc_179.map ev_x := rfl
theorem em_179 : ev_P 179 (⟨"MeadowSignsModel", "sure", "(III)I"⟩, prog_12_method_118_code, 5, some .int) := ⟨_, _, rfl, (show ev_tget 8 ev_XT 179 id = (5, evx_179) from rfl).trans (congrArg (Prod.mk 5) ex_179), ev_chk_ok _ ek_179, by decide +kernel⟩
set_option maxRecDepth 100000 in
theorem ek_180 : ev_chk ev_MT "MeadowSignsModel" false (some .int) prog_12_method_119_code evc_180 = true := by decide +kernel
set_option maxRecDepth 100000 in
theorem ex_180 : evx_180 = evc_180.map ev_x := rfl
theorem em_180 : ev_P 180 (⟨"MeadowSignsModel", "ask", "(II)I"⟩, prog_12_method_119_code, 7, some .int) := ⟨_, _, rfl, (show ev_tget 8 ev_XT 180 id = (7, evx_180) from rfl).trans (congrArg (Prod.mk 7) ex_180), ev_chk_ok _ ek_180, by decide +kernel⟩
set_option maxRecDepth 100000 in
theorem ek_181 : ev_chk ev_MT "MeadowSignsModel" false (some .int) prog_12_method_120_code evc_181 = true := by decide +kernel
set_option maxRecDepth 100000 in
theorem ex_181 : evx_181 = evc_181.map ev_x := rfl
theorem em_181 : ev_P 181 (⟨"MeadowSignsModel", "image", "(I)I"⟩, prog_12_method_120_code, 3, some .int) := ⟨_, _, rfl, (show ev_tget 8 ev_XT 181 id = (3, evx_181) from rfl).trans (congrArg (Prod.mk 3) ex_181), ev_chk_ok _ ek_181, by decide +kernel⟩
set_option maxRecDepth 100000 in
theorem ek_182 : ev_chk ev_MT "MeadowSignsModel" false (some .int) prog_12_method_121_code evc_182 = true := by decide +kernel
set_option maxRecDepth 100000 in
theorem ex_182 : evx_182 = evc_182.map ev_x := rfl
theorem em_182 : ev_P 182 (⟨"MeadowSignsModel", "back", "(I)I"⟩, prog_12_method_121_code, 3, some .int) := ⟨_, _, rfl, (show ev_tget 8 ev_XT 182 id = (3, evx_182) from rfl).trans (congrArg (Prod.mk 3) ex_182), ev_chk_ok _ ek_182, by decide +kernel⟩
set_option maxRecDepth 100000 in
theorem ek_183 : ev_chk ev_MT "MeadowSignsModel" false (some .int) prog_12_method_122_code evc_183 = true := by decide +kernel
set_option maxRecDepth 100000 in
theorem ex_183 : evx_183 = evc_183.map ev_x := rfl
theorem em_183 : ev_P 183 (⟨"MeadowSignsModel", "about", "(I)I"⟩, prog_12_method_122_code, 2, some .int) := ⟨_, _, rfl, (show ev_tget 8 ev_XT 183 id = (2, evx_183) from rfl).trans (congrArg (Prod.mk 2) ex_183), ev_chk_ok _ ek_183, by decide +kernel⟩
set_option maxRecDepth 100000 in
theorem ek_184 : ev_chk ev_MT "MeadowSignsModel" false (some .int) prog_12_method_123_code evc_184 = true := by decide +kernel
set_option maxRecDepth 100000 in
theorem ex_184 : evx_184 = evc_184.map ev_x := rfl
theorem em_184 : ev_P 184 (⟨"MeadowSignsModel", "feed", "(IIIII)I"⟩, prog_12_method_123_code, 8, some .int) := ⟨_, _, rfl, (show ev_tget 8 ev_XT 184 id = (8, evx_184) from rfl).trans (congrArg (Prod.mk 8) ex_184), ev_chk_ok _ ek_184, by decide +kernel⟩
set_option maxRecDepth 100000 in
theorem ek_185 : ev_chk ev_MT "MeadowSignsModel" false (some .int) prog_12_method_124_code evc_185 = true := by decide +kernel
set_option maxRecDepth 100000 in
theorem ex_185 : evx_185 = evc_185.map ev_x := rfl
theorem em_185 : ev_P 185 (⟨"MeadowSignsModel", "end", "(I)I"⟩, prog_12_method_124_code, 2, some .int) := ⟨_, _, rfl, (show ev_tget 8 ev_XT 185 id = (2, evx_185) from rfl).trans (congrArg (Prod.mk 2) ex_185), ev_chk_ok _ ek_185, by decide +kernel⟩
set_option maxRecDepth 100000 in
theorem ek_186 : ev_chk ev_MT "java/lang/Integer" false (some .int) prog_13_method_49_code evc_186 = true := by decide +kernel
set_option maxRecDepth 100000 in
theorem ex_186 : evx_186 = evc_186.map ev_x := rfl
theorem em_186 : ev_P 186 (⟨"java/lang/Integer", "bitCount", "(I)I"⟩, prog_13_method_49_code, 1, some .int) := ⟨_, _, rfl, (show ev_tget 8 ev_XT 186 id = (1, evx_186) from rfl).trans (congrArg (Prod.mk 1) ex_186), ev_chk_ok _ ek_186, by decide +kernel⟩
set_option maxRecDepth 100000 in
theorem ek_187 : ev_chk ev_MT "MeadowSigns$Formula" false (some .int) prog_2_method_7_code evc_187 = true := by decide +kernel
set_option maxRecDepth 100000 in
theorem ex_187 : evx_187 = evc_187.map ev_x := rfl
theorem em_187 : ev_P 187 (⟨"MeadowSigns$Formula", "valueBy", "([I)I"⟩, prog_2_method_7_code, 6, some .int) := ⟨_, _, rfl, (show ev_tget 8 ev_XT 187 id = (6, evx_187) from rfl).trans (congrArg (Prod.mk 6) ex_187), ev_chk_ok _ ek_187, by decide +kernel⟩
