/-! CONTRACTS a, printed by a program -/
/-! a241 X9_plain -/
def as_a241 : List ev_V := [(2, 0, 0)]
def E_a241 : e2_E := [(2147483648, 2147583648, 0, 0)]
noncomputable def f_a241 : ev_H := (an1144 : e2_Q8)
def an1145 : e2_Q6 := (an647, an1138)
def an1146 : e2_Q4 := (an1014, an576)
def an1147 : e2_Q5 := (an1140, an1146)
def an1148 : e2_Q6 := (an1147, an662)
def an1149 : e2_Q7 := (an1145, an1148)
def an1150 : e2_Q8 := (an1135, an1149)
noncomputable def q_a241_0 : ev_H := (an1150 : e2_Q8)
noncomputable def rs_a241 : e2_Rs := [((11, 2147483647, 2147483651), q_a241_0)]
noncomputable def s_a241 : e2_Sm := (143, as_a241, E_a241, f_a241, rs_a241)
noncomputable def S_a241 : List e2_Sm := [s_a173, s_a181, s_a188]
noncomputable def I_a241 : List e2_In := [(63, 1, e2x_63)]
set_option maxRecDepth 1000000 in
theorem ck_a241 : e2_run (e2_cal S_a241 I_a241 4000 1) (e2_fin rs_a241) e2x_143 (fun _ => false) (fun _ _ _ _ _ => false) 4000 (e2_seek e2x_143 0) (e2_al 1 as_a241) [] E_a241 f_a241 = true := by decide +kernel
set_option maxRecDepth 1000000 in
theorem co_a241 : e2_okSB E_a241.length as_a241 f_a241 rs_a241 = true := by decide +kernel
theorem cs_a241 (hen : en_ok) (l : Launch) (hh : e2_hand_a l) : e2_smOk l 71 s_a241 := e2_con0 (H := 69) (n := 1) (C := evd_143) (S := S_a241) (I := I_a241) (fuel := 4000) [] hen ei_143 (e2_fa ((cs_a173 hen l).mono (by decide)) (e2_fa ((cs_a181 hen l hh).mono (by decide)) (e2_fa (cs_a188 hen l hh) e2_fz))) (e2_fa ein_63 e2_fz) (by decide) co_a241 ex2_143 ck_a241
/-! a242 X9_orders -/
def as_a242 : List ev_V := [(2, 0, 0), (11, 0, 4294967295)]
def E_a242 : e2_E := [(2147483648, 2147583648, 0, 0)]
def an1151 : e2_Q7 := (an1134, an724)
def an1152 : e2_Q6 := (an1136, an1011)
def an1153 : e2_Q5 := (an661, an726)
def an1154 : e2_Q6 := (an1141, an1153)
def an1155 : e2_Q7 := (an1152, an1154)
def an1156 : e2_Q8 := (an1151, an1155)
noncomputable def f_a242 : ev_H := (an1156 : e2_Q8)
noncomputable def q_a242_0 : ev_H := (an1156 : e2_Q8)
noncomputable def rs_a242 : e2_Rs := [((11, 0, 4294967295), q_a242_0)]
noncomputable def s_a242 : e2_Sm := (144, as_a242, E_a242, f_a242, rs_a242)
noncomputable def S_a242 : List e2_Sm := [s_a173, s_a193]
noncomputable def I_a242 : List e2_In := [(63, 1, e2x_63), (164, 1, e2x_164), (165, 2, e2x_165), (291, 1, e2x_291)]
set_option maxRecDepth 1000000 in
theorem ck_a242 : e2_run (e2_cal S_a242 I_a242 4000 2) (e2_fin rs_a242) e2x_144 (fun _ => false) (fun _ _ _ _ _ => false) 4000 (e2_seek e2x_144 0) (e2_al 2 as_a242) [] E_a242 f_a242 = true := by decide +kernel
set_option maxRecDepth 1000000 in
theorem co_a242 : e2_okSB E_a242.length as_a242 f_a242 rs_a242 = true := by decide +kernel
theorem cs_a242 (hen : en_ok) (l : Launch) (hh : e2_hand_a l) : e2_smOk l 65 s_a242 := e2_con0 (H := 62) (n := 2) (C := evd_144) (S := S_a242) (I := I_a242) (fuel := 4000) [] hen ei_144 (e2_fa ((cs_a173 hen l).mono (by decide)) (e2_fa (cs_a193 hen l hh) e2_fz)) (e2_fa ein_63 (e2_fa ein_164 (e2_fa ein_165 (e2_fa ein_291 e2_fz)))) (by decide) co_a242 ex2_144 ck_a242
/-! a243 X9_write -/
def as_a243 : List ev_V := [(2, 0, 0), (11, 0, 4294967295), (11, 0, 4294967295), (11, 0, 4294967295)]
def E_a243 : e2_E := [(2147483648, 2147583648, 0, 0)]
def an1157 : e2_Q2 := (an960, an780)
def an1158 : e2_Q3 := (an1157, an5)
def an1159 : e2_Q4 := (an1158, an13)
def an1160 : e2_Q5 := (an1159, an533)
def an1161 : e2_Q4 := (an352, an689)
def an1162 : e2_Q5 := (an538, an1161)
def an1163 : e2_Q6 := (an1160, an1162)
def an1164 : e2_Q7 := (an1163, an612)
def an1165 : e2_Q5 := (an547, an615)
def an1166 : e2_Q4 := (an1009, an171)
def an1167 : e2_Q5 := (an1166, an365)
def an1168 : e2_Q6 := (an1165, an1167)
def an1169 : e2_Q5 := (an661, an250)
def an1170 : e2_Q6 := (an570, an1169)
def an1171 : e2_Q7 := (an1168, an1170)
def an1172 : e2_Q8 := (an1164, an1171)
noncomputable def f_a243 : ev_H := (an1172 : e2_Q8)
noncomputable def q_a243_0 : ev_H := (an1172 : e2_Q8)
noncomputable def rs_a243 : e2_Rs := [((11, 2147483647, 2147483837), q_a243_0)]
noncomputable def s_a243 : e2_Sm := (145, as_a243, E_a243, f_a243, rs_a243)
noncomputable def S_a243 : List e2_Sm := [s_a173, s_a203]
noncomputable def I_a243 : List e2_In := [(63, 1, e2x_63), (162, 2, e2x_162)]
set_option maxRecDepth 1000000 in
theorem ck_a243 : e2_run (e2_cal S_a243 I_a243 4000 1) (e2_fin rs_a243) e2x_145 (fun _ => false) (fun _ _ _ _ _ => false) 4000 (e2_seek e2x_145 0) (e2_al 6 as_a243) [] E_a243 f_a243 = true := by decide +kernel
set_option maxRecDepth 1000000 in
theorem co_a243 : e2_okSB E_a243.length as_a243 f_a243 rs_a243 = true := by decide +kernel
theorem cs_a243 (hen : en_ok) (l : Launch) : e2_smOk l 19 s_a243 := e2_con0 (H := 17) (n := 1) (C := evd_145) (S := S_a243) (I := I_a243) (fuel := 4000) [] hen ei_145 (e2_fa ((cs_a173 hen l).mono (by decide)) (e2_fa (cs_a203 hen l) e2_fz)) (e2_fa ein_63 (e2_fa ein_162 e2_fz)) (by decide) co_a243 ex2_145 ck_a243
/-! a244 X9_watch -/
def as_a244 : List ev_V := [(2, 0, 0)]
def E_a244 : e2_E := [(2147483648, 2147583648, 0, 0)]
def an1173 : e2_Q5 := (an538, an995)
def an1174 : e2_Q6 := (an1132, an1173)
def an1175 : e2_Q7 := (an1174, an644)
def an1176 : e2_Q7 := (an1152, an1142)
def an1177 : e2_Q8 := (an1175, an1176)
noncomputable def f_a244 : ev_H := (an1177 : e2_Q8)
def an1178 : e2_Q6 := (an647, an1011)
def an1179 : e2_Q7 := (an1178, an1148)
def an1180 : e2_Q8 := (an1175, an1179)
noncomputable def q_a244_0 : ev_H := (an1180 : e2_Q8)
noncomputable def rs_a244 : e2_Rs := [((11, 0, 4294967295), q_a244_0)]
noncomputable def s_a244 : e2_Sm := (146, as_a244, E_a244, f_a244, rs_a244)
noncomputable def S_a244 : List e2_Sm := [s_a173, s_a204]
noncomputable def I_a244 : List e2_In := []
set_option maxRecDepth 1000000 in
theorem ck_a244 : e2_run (e2_cal S_a244 I_a244 4000 0) (e2_fin rs_a244) e2x_146 (fun _ => false) (fun _ _ _ _ _ => false) 4000 (e2_seek e2x_146 0) (e2_al 1 as_a244) [] E_a244 f_a244 = true := by decide +kernel
set_option maxRecDepth 1000000 in
theorem co_a244 : e2_okSB E_a244.length as_a244 f_a244 rs_a244 = true := by decide +kernel
theorem cs_a244 (hen : en_ok) (l : Launch) (hh : e2_hand_a l) : e2_smOk l 64 s_a244 := e2_con0 (H := 63) (n := 0) (C := evd_146) (S := S_a244) (I := I_a244) (fuel := 4000) [] hen ei_146 (e2_fa ((cs_a173 hen l).mono (by decide)) (e2_fa (cs_a204 hen l hh) e2_fz)) e2_fz (by decide) co_a244 ex2_146 ck_a244
/-! a245 X9_cows -/
def as_a245 : List ev_V := [(2, 0, 0), (11, 0, 4294967295), (11, 0, 4294967295)]
def E_a245 : e2_E := [(2147483648, 2147583648, 0, 0)]
noncomputable def f_a245 : ev_H := (an1177 : e2_Q8)
noncomputable def q_a245_0 : ev_H := (an1177 : e2_Q8)
noncomputable def rs_a245 : e2_Rs := [((11, 0, 4294967295), q_a245_0)]
noncomputable def s_a245 : e2_Sm := (147, as_a245, E_a245, f_a245, rs_a245)
noncomputable def S_a245 : List e2_Sm := [s_a173, s_a205]
noncomputable def I_a245 : List e2_In := [(161, 2, e2x_161), (164, 1, e2x_164), (291, 1, e2x_291)]
set_option maxRecDepth 1000000 in
theorem ck_a245 : e2_run (e2_cal S_a245 I_a245 4000 1) (e2_fin rs_a245) e2x_147 (fun _ => false) (fun _ _ _ _ _ => false) 4000 (e2_seek e2x_147 0) (e2_al 3 as_a245) [] E_a245 f_a245 = true := by decide +kernel
set_option maxRecDepth 1000000 in
theorem co_a245 : e2_okSB E_a245.length as_a245 f_a245 rs_a245 = true := by decide +kernel
theorem cs_a245 (hen : en_ok) (l : Launch) (hh : e2_hand_a l) : e2_smOk l 65 s_a245 := e2_con0 (H := 63) (n := 1) (C := evd_147) (S := S_a245) (I := I_a245) (fuel := 4000) [] hen ei_147 (e2_fa ((cs_a173 hen l).mono (by decide)) (e2_fa (cs_a205 hen l hh) e2_fz)) (e2_fa ein_161 (e2_fa ein_164 (e2_fa ein_291 e2_fz))) (by decide) co_a245 ex2_147 ck_a245
/-! a246 X9_duel -/
def as_a246 : List ev_V := [(2, 0, 0), (11, 0, 4294967295), (11, 0, 4294967295), (11, 0, 4294967295), (11, 0, 4294967295)]
def E_a246 : e2_E := [(2147483648, 2147583648, 0, 0)]
noncomputable def f_a246 : ev_H := (an1177 : e2_Q8)
noncomputable def q_a246_0 : ev_H := (an1177 : e2_Q8)
noncomputable def rs_a246 : e2_Rs := [((11, 0, 4294967295), q_a246_0)]
noncomputable def s_a246 : e2_Sm := (148, as_a246, E_a246, f_a246, rs_a246)
noncomputable def S_a246 : List e2_Sm := [s_a173, s_a207]
noncomputable def I_a246 : List e2_In := [(161, 2, e2x_161), (164, 1, e2x_164), (165, 2, e2x_165)]
set_option maxRecDepth 1000000 in
theorem ck_a246 : e2_run (e2_cal S_a246 I_a246 4000 2) (e2_fin rs_a246) e2x_148 (fun _ => false) (fun _ _ _ _ _ => false) 4000 (e2_seek e2x_148 0) (e2_al 6 as_a246) [] E_a246 f_a246 = true := by decide +kernel
set_option maxRecDepth 1000000 in
theorem co_a246 : e2_okSB E_a246.length as_a246 f_a246 rs_a246 = true := by decide +kernel
theorem cs_a246 (hen : en_ok) (l : Launch) (hh : e2_hand_a l) : e2_smOk l 68 s_a246 := e2_con0 (H := 65) (n := 2) (C := evd_148) (S := S_a246) (I := I_a246) (fuel := 4000) [] hen ei_148 (e2_fa ((cs_a173 hen l).mono (by decide)) (e2_fa (cs_a207 hen l hh) e2_fz)) (e2_fa ein_161 (e2_fa ein_164 (e2_fa ein_165 e2_fz))) (by decide) co_a246 ex2_148 ck_a246
/-! a247 X9_heard -/
def as_a247 : List ev_V := [(2, 0, 0), (11, 0, 4294967295), (11, 0, 4294967295), (11, 0, 4294967295), (11, 2147483648, 2147483649)]
def E_a247 : e2_E := [(2147483648, 2147583648, 0, 0)]
def an1181 : e2_Q4 := (an962, an416)
def an1182 : e2_Q5 := (an1181, an29)
def an1183 : e2_Q6 := (an1182, an61)
def an1184 : e2_Q7 := (an1183, an424)
def an1185 : e2_Q8 := (an1184, an442)
noncomputable def f_a247 : ev_H := (an1185 : e2_Q8)
noncomputable def q_a247_0 : ev_H := (an1185 : e2_Q8)
noncomputable def rs_a247 : e2_Rs := [((11, 2147483647, 2147483677), q_a247_0)]
noncomputable def s_a247 : e2_Sm := (150, as_a247, E_a247, f_a247, rs_a247)
noncomputable def S_a247 : List e2_Sm := [s_a10]
noncomputable def I_a247 : List e2_In := []
set_option maxRecDepth 1000000 in
theorem ck_a247 : e2_run (e2_cal S_a247 I_a247 4000 0) (e2_fin rs_a247) e2x_150 (fun _ => false) (fun _ _ _ _ _ => false) 4000 (e2_seek e2x_150 0) (e2_al 5 as_a247) [] E_a247 f_a247 = true := by decide +kernel
set_option maxRecDepth 1000000 in
theorem co_a247 : e2_okSB E_a247.length as_a247 f_a247 rs_a247 = true := by decide +kernel
theorem cs_a247 (hen : en_ok) (l : Launch) : e2_smOk l 3 s_a247 := e2_con0 (H := 2) (n := 0) (C := evd_150) (S := S_a247) (I := I_a247) (fuel := 4000) [] hen ei_150 (e2_fa (cs_a10 hen l) e2_fz) e2_fz (by decide) co_a247 ex2_150 ck_a247
/-! a248 X9_fit -/
def as_a248 : List ev_V := [(2, 0, 0), (11, 0, 4294967295)]
def E_a248 : e2_E := [(2147483648, 2147583648, 0, 0)]
def an1186 : e2_Q7 := (an1183, an454)
def an1187 : e2_Q8 := (an1186, an442)
noncomputable def f_a248 : ev_H := (an1187 : e2_Q8)
noncomputable def q_a248_0 : ev_H := (an1187 : e2_Q8)
noncomputable def rs_a248 : e2_Rs := [((11, 2147483648, 2147549184), q_a248_0)]
noncomputable def s_a248 : e2_Sm := (153, as_a248, E_a248, f_a248, rs_a248)
noncomputable def S_a248 : List e2_Sm := [s_a29]
noncomputable def I_a248 : List e2_In := []
set_option maxRecDepth 1000000 in
theorem ck_a248 : e2_run (e2_cal S_a248 I_a248 4000 0) (e2_fin rs_a248) e2x_153 (fun _ => false) (fun _ _ _ _ _ => false) 4000 (e2_seek e2x_153 0) (e2_al 2 as_a248) [] E_a248 f_a248 = true := by decide +kernel
set_option maxRecDepth 1000000 in
theorem co_a248 : e2_okSB E_a248.length as_a248 f_a248 rs_a248 = true := by decide +kernel
theorem cs_a248 (hen : en_ok) (l : Launch) : e2_smOk l 20 s_a248 := e2_con0 (H := 19) (n := 0) (C := evd_153) (S := S_a248) (I := I_a248) (fuel := 4000) [] hen ei_153 (e2_fa (cs_a29 hen l) e2_fz) e2_fz (by decide) co_a248 ex2_153 ck_a248
/-! a249 X9_sure -/
def as_a249 : List ev_V := [(2, 0, 0), (11, 0, 4294967295), (11, 0, 4294967295), (11, 0, 4294967295)]
def E_a249 : e2_E := [(2147483648, 2147583648, 0, 0)]
noncomputable def f_a249 : ev_H := (an1187 : e2_Q8)
noncomputable def q_a249_0 : ev_H := (an1187 : e2_Q8)
noncomputable def rs_a249 : e2_Rs := [((11, 2147483646, 2147483649), q_a249_0)]
noncomputable def s_a249 : e2_Sm := (154, as_a249, E_a249, f_a249, rs_a249)
noncomputable def S_a249 : List e2_Sm := [s_a30]
noncomputable def I_a249 : List e2_In := []
set_option maxRecDepth 1000000 in
theorem ck_a249 : e2_run (e2_cal S_a249 I_a249 4000 0) (e2_fin rs_a249) e2x_154 (fun _ => false) (fun _ _ _ _ _ => false) 4000 (e2_seek e2x_154 0) (e2_al 4 as_a249) [] E_a249 f_a249 = true := by decide +kernel
set_option maxRecDepth 1000000 in
theorem co_a249 : e2_okSB E_a249.length as_a249 f_a249 rs_a249 = true := by decide +kernel
theorem cs_a249 (hen : en_ok) (l : Launch) : e2_smOk l 22 s_a249 := e2_con0 (H := 21) (n := 0) (C := evd_154) (S := S_a249) (I := I_a249) (fuel := 4000) [] hen ei_154 (e2_fa (cs_a30 hen l) e2_fz) e2_fz (by decide) co_a249 ex2_154 ck_a249
/-! a250 X9_ask -/
def as_a250 : List ev_V := [(2, 0, 0), (11, 0, 4294967295), (11, 0, 4294967295)]
def E_a250 : e2_E := [(2147483648, 2147583648, 0, 0)]
noncomputable def f_a250 : ev_H := (an1187 : e2_Q8)
noncomputable def q_a250_0 : ev_H := (an1187 : e2_Q8)
noncomputable def rs_a250 : e2_Rs := [((11, 2147483647, 2147549184), q_a250_0)]
noncomputable def s_a250 : e2_Sm := (155, as_a250, E_a250, f_a250, rs_a250)
noncomputable def S_a250 : List e2_Sm := [s_a31]
noncomputable def I_a250 : List e2_In := []
set_option maxRecDepth 1000000 in
theorem ck_a250 : e2_run (e2_cal S_a250 I_a250 4000 0) (e2_fin rs_a250) e2x_155 (fun _ => false) (fun _ _ _ _ _ => false) 4000 (e2_seek e2x_155 0) (e2_al 3 as_a250) [] E_a250 f_a250 = true := by decide +kernel
set_option maxRecDepth 1000000 in
theorem co_a250 : e2_okSB E_a250.length as_a250 f_a250 rs_a250 = true := by decide +kernel
theorem cs_a250 (hen : en_ok) (l : Launch) : e2_smOk l 22 s_a250 := e2_con0 (H := 21) (n := 0) (C := evd_155) (S := S_a250) (I := I_a250) (fuel := 4000) [] hen ei_155 (e2_fa (cs_a31 hen l) e2_fz) e2_fz (by decide) co_a250 ex2_155 ck_a250
/-! a251 X9_about -/
def as_a251 : List ev_V := [(2, 0, 0), (11, 0, 4294967295)]
def E_a251 : e2_E := [(2147483648, 2147583648, 0, 0)]
def an1188 : e2_Q3 := (an48, an1059)
def an1189 : e2_Q4 := (an1188, an59)
def an1190 : e2_Q5 := (an923, an1189)
def an1191 : e2_Q6 := (an964, an1190)
def an1192 : e2_Q7 := (an1191, an125)
def an1193 : e2_Q3 := (an715, an968)
def an1194 : e2_Q4 := (an1193, an140)
def an1195 : e2_Q5 := (an1194, an156)
def an1196 : e2_Q6 := (an1195, an434)
def an1197 : e2_Q4 := (an211, an568)
def an1198 : e2_Q5 := (an345, an1197)
def an1199 : e2_Q6 := (an1198, an251)
def an1200 : e2_Q7 := (an1196, an1199)
def an1201 : e2_Q8 := (an1192, an1200)
noncomputable def f_a251 : ev_H := (an1201 : e2_Q8)
noncomputable def q_a251_0 : ev_H := (an1201 : e2_Q8)
noncomputable def rs_a251 : e2_Rs := [((11, 0, 4294967295), q_a251_0)]
noncomputable def s_a251 : e2_Sm := (158, as_a251, E_a251, f_a251, rs_a251)
noncomputable def S_a251 : List e2_Sm := []
noncomputable def I_a251 : List e2_In := []
set_option maxRecDepth 1000000 in
theorem ck_a251 : e2_run (e2_cal S_a251 I_a251 4000 0) (e2_fin rs_a251) e2x_158 (fun _ => false) (fun _ _ _ _ _ => false) 4000 (e2_seek e2x_158 0) (e2_al 2 as_a251) [] E_a251 f_a251 = true := by decide +kernel
set_option maxRecDepth 1000000 in
theorem co_a251 : e2_okSB E_a251.length as_a251 f_a251 rs_a251 = true := by decide +kernel
theorem cs_a251 (hen : en_ok) (l : Launch) : e2_smOk l 1 s_a251 := e2_con0 (H := 0) (n := 0) (C := evd_158) (S := S_a251) (I := I_a251) (fuel := 4000) [] hen ei_158 e2_fz e2_fz (by decide) co_a251 ex2_158 ck_a251
