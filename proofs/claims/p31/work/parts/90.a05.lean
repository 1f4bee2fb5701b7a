/-! CONTRACTS a, printed by a program -/
/-! a251 X9_readings -/
def as_a251 : List ev_V := [(2, 0, 0)]
def E_a251 : e2_E := [(2147483648, 2147583648, 0, 0), (2147483652, 2147483668, 1, 0)]
noncomputable def f_a251 : ev_H := (an1195 : e2_Q8)
noncomputable def q_a251_0 : ev_H := (an1204 : e2_Q8)
noncomputable def rs_a251 : e2_Rs := [((11, 0, 4294967295), q_a251_0)]
noncomputable def s_a251 : e2_Sm := (135, as_a251, E_a251, f_a251, rs_a251)
noncomputable def S_a251 : List e2_Sm := [s_a245]
noncomputable def I_a251 : List e2_In := []
set_option maxRecDepth 1000000 in
theorem ck_a251 : e2_run (e2_cal S_a251 I_a251 4000 0) (e2_fin rs_a251) e2x_135 (fun _ => false) (fun _ _ _ _ _ => false) 4000 (e2_seek e2x_135 0) (e2_al 1 as_a251) [] E_a251 f_a251 = true := by decide +kernel
set_option maxRecDepth 1000000 in
theorem co_a251 : e2_okSB E_a251.length as_a251 f_a251 rs_a251 = true := by decide +kernel
theorem cs_a251 (hen : en_ok) (l : Launch) (hh : e2_hand_a l) : e2_smOk l 62 s_a251 := e2_con0 (H := 61) (n := 0) (C := evd_135) (S := S_a251) (I := I_a251) (fuel := 4000) [] hen ei_135 (e2_fa (cs_a245 hen l hh) e2_fz) e2_fz (by decide) co_a251 ex2_135 ck_a251
/-! a252 X9_taken -/
def as_a252 : List ev_V := [(2, 0, 0)]
def E_a252 : e2_E := [(2147483648, 2147583648, 0, 0), (2147483652, 2147483668, 1, 0)]
def an1249 : e2_Q4 := (an479, an908)
def an1250 : e2_Q5 := (an1053, an1249)
def an1251 : e2_Q6 := (an1184, an1250)
def an1252 : e2_Q7 := (an1251, an1187)
def an1253 : e2_Q5 := (an343, an823)
def an1254 : e2_Q6 := (an1253, an1192)
def an1255 : e2_Q7 := (an1190, an1254)
def an1256 : e2_Q8 := (an1252, an1255)
noncomputable def f_a252 : ev_H := (an1256 : e2_Q8)
def an1257 : e2_Q7 := (an1251, an319)
def an1258 : e2_Q5 := (an367, an823)
def an1259 : e2_Q6 := (an1258, an1201)
def an1260 : e2_Q7 := (an1199, an1259)
def an1261 : e2_Q8 := (an1257, an1260)
noncomputable def q_a252_0 : ev_H := (an1261 : e2_Q8)
noncomputable def rs_a252 : e2_Rs := [((11, 2147483647, 2147483668), q_a252_0)]
noncomputable def s_a252 : e2_Sm := (136, as_a252, E_a252, f_a252, rs_a252)
noncomputable def S_a252 : List e2_Sm := [s_a246]
noncomputable def I_a252 : List e2_In := [(63, 1, e2x_63), (64, 2, e2x_64)]
set_option maxRecDepth 1000000 in
theorem co_a252 : e2_okSB E_a252.length as_a252 f_a252 rs_a252 = true := by decide +kernel
def al_a252_0 : List ev_V := [(2, 0, 0), (1, 2, 4294967296)]
def E_a252_0 : e2_E := [(2147483648, 2147583648, 0, 0), (2147483652, 2147483668, 1, 0), (2147483648, 2147483668, 2, 0)]
noncomputable def h_a252_0 : ev_H := (an1261 : e2_Q8)
noncomputable def cl_a252_e : List (Nat × e2_S) := [(18, e2_cutL (al_a252_0.set 1 (11, 2147483648, 2147483668)) 2 (E_a252_0.take 2) h_a252_0)]
set_option maxRecDepth 1000000 in
theorem ck_a252_e : e2_run (e2_cal S_a252 I_a252 4000 1) (e2_fin rs_a252) e2x_136 (e2_bpL cl_a252_e) (e2_cutA cl_a252_e) 4000 (e2_seek e2x_136 0) (e2_al 2 as_a252) [] E_a252 f_a252 = true := by decide +kernel
noncomputable def cl_a252_0 : List (Nat × e2_S) := [(18, e2_cutL (al_a252_0.set 1 (13, 10, 2147483668)) 2 (E_a252_0.take 2) h_a252_0)]
set_option maxRecDepth 1000000 in
theorem ck_a252_0 : e2_runM (e2_cal S_a252 I_a252 4000 1) (e2_fin rs_a252) e2x_136 (e2_bpL cl_a252_0) (e2_cutA cl_a252_0) 4000 (e2_seek e2x_136 18) al_a252_0 [] E_a252_0 h_a252_0 = true := by decide +kernel
set_option maxRecDepth 1000000 in
theorem ci_a252_0 : e2_idl 2 (al_a252_0.set 1 (9, 0, 0)) = true := by decide +kernel
set_option maxRecDepth 1000000 in
theorem cj_a252_0 : e2_idh 2 8 h_a252_0 = true := by decide +kernel
theorem cs_a252 (hen : en_ok) (l : Launch) (hh : e2_hand_a l) : e2_smOk l 64 s_a252 := by
  refine e2_conG (H := 62) (n := 1) (C := evd_136) (S := S_a252) (I := I_a252) (fuel := 4000) hen ei_136 (e2_fa (cs_a246 hen l hh) e2_fz) (e2_fa ein_63 (e2_fa ein_64 e2_fz)) (by decide) co_a252 fun M d _ hC hcall p e R s m args below meth c Q D cA A ads r0 ha hl0 => ?_
  have L_0 : e2_gdM M p l e R s m args below meth c Q D cA A ads r0 18 al_a252_0 [] E_a252_0 h_a252_0 := by
    refine e2_indL (u := 2) (j := 1) (lo := 2147483648) (hi := 2147483668) (b := 2) (dd := 0) hl0 (by decide) rfl rfl (Or.inr ⟨rfl, rfl⟩) rfl ci_a252_0 cj_a252_0 ?_
    intro r_0 k_0 hk_0 hp_0 hs_0 hn_0
    have hl_0 : r_0.length ≤ 3 := hs_0.len rfl
    have ha_0 := ha.ext hp_0
    exact e2_fromM hen ha_0 hcall (e2_cutA_ok (e2_fa (fun al st E h hc => hn_0 al st E h hc) e2_fz)) (hC []) (X := e2x_136) ex2_136 18 ck_a252_0
  have EN_0 := e2_entL (u := 2) (j := 1) (lo := 2147483648) (hi := 2147483668) hl0 rfl rfl rfl ci_a252_0 cj_a252_0 L_0
  exact e2_from hen ha hcall (e2_cutA_ok (e2_fa (fun al st E h hc => EN_0 al st E h hc) e2_fz)) (hC []) (X := e2x_136) ex2_136 0 ck_a252_e
/-! a253 X9_weight -/
def as_a253 : List ev_V := [(2, 0, 0)]
def E_a253 : e2_E := [(2147483648, 2147583648, 0, 0), (2147483652, 2147483668, 1, 0)]
noncomputable def f_a253 : ev_H := (an1195 : e2_Q8)
noncomputable def q_a253_0 : ev_H := (an1204 : e2_Q8)
noncomputable def rs_a253 : e2_Rs := [((11, 0, 4294967295), q_a253_0)]
noncomputable def s_a253 : e2_Sm := (137, as_a253, E_a253, f_a253, rs_a253)
noncomputable def S_a253 : List e2_Sm := [s_a245]
noncomputable def I_a253 : List e2_In := [(89, 1, e2x_89), (90, 5, e2x_90)]
set_option maxRecDepth 1000000 in
theorem ck_a253 : e2_run (e2_cal S_a253 I_a253 4000 2) (e2_fin rs_a253) e2x_137 (fun _ => false) (fun _ _ _ _ _ => false) 4000 (e2_seek e2x_137 0) (e2_al 1 as_a253) [] E_a253 f_a253 = true := by decide +kernel
set_option maxRecDepth 1000000 in
theorem co_a253 : e2_okSB E_a253.length as_a253 f_a253 rs_a253 = true := by decide +kernel
theorem cs_a253 (hen : en_ok) (l : Launch) (hh : e2_hand_a l) : e2_smOk l 64 s_a253 := e2_con0 (H := 61) (n := 2) (C := evd_137) (S := S_a253) (I := I_a253) (fuel := 4000) [] hen ei_137 (e2_fa (cs_a245 hen l hh) e2_fz) (e2_fa ein_89 (e2_fa ein_90 e2_fz)) (by decide) co_a253 ex2_137 ck_a253
/-! a254 X9_does -/
def as_a254 : List ev_V := [(2, 0, 0), (11, 0, 4294967295)]
def E_a254 : e2_E := [(2147483648, 2147583648, 0, 0), (2147483652, 2147483668, 1, 0)]
noncomputable def f_a254 : ev_H := (an1209 : e2_Q8)
noncomputable def q_a254_0 : ev_H := (an1209 : e2_Q8)
noncomputable def rs_a254 : e2_Rs := [((11, 0, 4294967295), q_a254_0)]
noncomputable def s_a254 : e2_Sm := (138, as_a254, E_a254, f_a254, rs_a254)
noncomputable def S_a254 : List e2_Sm := [s_a236, s_a246]
noncomputable def I_a254 : List e2_In := [(161, 2, e2x_161)]
set_option maxRecDepth 1000000 in
theorem ck_a254 : e2_run (e2_cal S_a254 I_a254 4000 1) (e2_fin rs_a254) e2x_138 (fun _ => false) (fun _ _ _ _ _ => false) 4000 (e2_seek e2x_138 0) (e2_al 2 as_a254) [] E_a254 f_a254 = true := by decide +kernel
set_option maxRecDepth 1000000 in
theorem co_a254 : e2_okSB E_a254.length as_a254 f_a254 rs_a254 = true := by decide +kernel
theorem cs_a254 (hen : en_ok) (l : Launch) (hh : e2_hand_a l) : e2_smOk l 64 s_a254 := e2_con0 (H := 62) (n := 1) (C := evd_138) (S := S_a254) (I := I_a254) (fuel := 4000) [] hen ei_138 (e2_fa ((cs_a236 hen l).mono (by decide)) (e2_fa (cs_a246 hen l hh) e2_fz)) (e2_fa ein_161 e2_fz) (by decide) co_a254 ex2_138 ck_a254
/-! a255 X9_readAll -/
def as_a255 : List ev_V := [(2, 0, 0), (2, 40, 0)]
def E_a255 : e2_E := [(2147483648, 2147583648, 0, 0), (2147483652, 2147483668, 1, 0)]
def an1262 : e2_Q4 := (an1080, an284)
def an1263 : e2_Q5 := (an1183, an1262)
def an1264 : e2_Q6 := (an1263, an1083)
def an1265 : e2_Q7 := (an1264, an1187)
def an1266 : e2_Q3 := (an325, an1086)
def an1267 : e2_Q4 := (an1266, an329)
def an1268 : e2_Q5 := (an1044, an1267)
def an1269 : e2_Q6 := (an1268, an1046)
def an1270 : e2_Q7 := (an1269, an1193)
def an1271 : e2_Q8 := (an1265, an1270)
noncomputable def f_a255 : ev_H := (an1271 : e2_Q8)
def an1272 : e2_Q7 := (an1264, an319)
def an1273 : e2_Q5 := (an361, an492)
def an1274 : e2_Q6 := (an1268, an1273)
def an1275 : e2_Q7 := (an1274, an1202)
def an1276 : e2_Q8 := (an1272, an1275)
noncomputable def q_a255_0 : ev_H := (an1276 : e2_Q8)
noncomputable def rs_a255 : e2_Rs := [((11, 0, 4294967295), q_a255_0)]
noncomputable def s_a255 : e2_Sm := (166, as_a255, E_a255, f_a255, rs_a255)
noncomputable def S_a255 : List e2_Sm := [s_a3, s_a235]
noncomputable def I_a255 : List e2_In := []
set_option maxRecDepth 1000000 in
theorem ck_a255 : e2_run (e2_cal S_a255 I_a255 4000 0) (e2_fin rs_a255) e2x_166 (fun _ => false) (fun _ _ _ _ _ => false) 4000 (e2_seek e2x_166 0) (e2_al 3 as_a255) [] E_a255 f_a255 = true := by decide +kernel
set_option maxRecDepth 1000000 in
theorem co_a255 : e2_okSB E_a255.length as_a255 f_a255 rs_a255 = true := by decide +kernel
theorem cs_a255 (hen : en_ok) (l : Launch) (hh : e2_hand_a l) : e2_smOk l 61 s_a255 := e2_con0 (H := 60) (n := 0) (C := evd_166) (S := S_a255) (I := I_a255) (fuel := 4000) [] hen ei_166 (e2_fa (hh _ hm_a3) (e2_fa ((cs_a235 hen l).mono (by decide)) e2_fz)) e2_fz (by decide) co_a255 ex2_166 ck_a255
/-! a256 X9_passYear -/
def as_a256 : List ev_V := [(2, 0, 0), (2, 40, 0)]
def E_a256 : e2_E := [(2147483648, 2147583648, 0, 0), (2147483652, 2147483668, 1, 0)]
def an1277 : e2_Q3 := (an836, an1079)
def an1278 : e2_Q4 := (an1277, an284)
def an1279 : e2_Q5 := (an1216, an1278)
def an1280 : e2_Q6 := (an1279, an1083)
def an1281 : e2_Q3 := (an303, an1126)
def an1282 : e2_Q4 := (an1281, an307)
def an1283 : e2_Q5 := (an1056, an1282)
def an1284 : e2_Q5 := (an317, an511)
def an1285 : e2_Q6 := (an1283, an1284)
def an1286 : e2_Q7 := (an1280, an1285)
def an1287 : e2_Q3 := (an496, an525)
def an1288 : e2_Q4 := (an1287, an218)
def an1289 : e2_Q5 := (an343, an1288)
def an1290 : e2_Q5 := (an1191, an1225)
def an1291 : e2_Q6 := (an1289, an1290)
def an1292 : e2_Q7 := (an1269, an1291)
def an1293 : e2_Q8 := (an1286, an1292)
noncomputable def f_a256 : ev_H := (an1293 : e2_Q8)
def an1294 : e2_Q5 := (an302, an1282)
def an1295 : e2_Q6 := (an1294, an1284)
def an1296 : e2_Q7 := (an1280, an1295)
def an1297 : e2_Q5 := (an367, an1288)
def an1298 : e2_Q5 := (an1191, an1233)
def an1299 : e2_Q6 := (an1297, an1298)
def an1300 : e2_Q7 := (an1274, an1299)
def an1301 : e2_Q8 := (an1296, an1300)
noncomputable def q_a256_0 : ev_H := (an1301 : e2_Q8)
noncomputable def rs_a256 : e2_Rs := [((11, 2147483647, 2147483668), q_a256_0)]
noncomputable def s_a256 : e2_Sm := (168, as_a256, E_a256, f_a256, rs_a256)
noncomputable def S_a256 : List e2_Sm := [s_a4, s_a241, s_a255]
noncomputable def I_a256 : List e2_In := [(102, 3, e2x_102), (160, 2, e2x_160)]
set_option maxRecDepth 1000000 in
theorem co_a256 : e2_okSB E_a256.length as_a256 f_a256 rs_a256 = true := by decide +kernel
def al_a256_0 : List ev_V := [(2, 0, 0), (2, 40, 0), (11, 2147483648, 2147483668), (1, 2, 4294967296), (9, 0, 0)]
def E_a256_0 : e2_E := [(2147483648, 2147583648, 0, 0), (2147483652, 2147483668, 1, 0), (2147483648, 2147483668, 2, 0)]
noncomputable def h_a256_0 : ev_H := (an1301 : e2_Q8)
noncomputable def cl_a256_e : List (Nat × e2_S) := [(30, e2_cutL (al_a256_0.set 3 (11, 2147483648, 2147483668)) 2 (E_a256_0.take 2) h_a256_0)]
set_option maxRecDepth 1000000 in
theorem ck_a256_e : e2_run (e2_cal S_a256 I_a256 4000 2) (e2_fin rs_a256) e2x_168 (e2_bpL cl_a256_e) (e2_cutA cl_a256_e) 4000 (e2_seek e2x_168 0) (e2_al 5 as_a256) [] E_a256 f_a256 = true := by decide +kernel
noncomputable def cl_a256_0 : List (Nat × e2_S) := [(30, e2_cutL (al_a256_0.set 3 (13, 10, 2147483668)) 2 (E_a256_0.take 2) h_a256_0)]
set_option maxRecDepth 1000000 in
theorem ck_a256_0 : e2_runM (e2_cal S_a256 I_a256 4000 2) (e2_fin rs_a256) e2x_168 (e2_bpL cl_a256_0) (e2_cutA cl_a256_0) 4000 (e2_seek e2x_168 30) al_a256_0 [] E_a256_0 h_a256_0 = true := by decide +kernel
set_option maxRecDepth 1000000 in
theorem ci_a256_0 : e2_idl 2 (al_a256_0.set 3 (9, 0, 0)) = true := by decide +kernel
set_option maxRecDepth 1000000 in
theorem cj_a256_0 : e2_idh 2 8 h_a256_0 = true := by decide +kernel
theorem cs_a256 (hen : en_ok) (l : Launch) (hh : e2_hand_a l) : e2_smOk l 64 s_a256 := by
  refine e2_conG (H := 61) (n := 2) (C := evd_168) (S := S_a256) (I := I_a256) (fuel := 4000) hen ei_168 (e2_fa ((hh _ hm_a4).mono (by decide)) (e2_fa ((cs_a241 hen l).mono (by decide)) (e2_fa (cs_a255 hen l hh) e2_fz))) (e2_fa ein_102 (e2_fa ein_160 e2_fz)) (by decide) co_a256 fun M d _ hC hcall p e R s m args below meth c Q D cA A ads r0 ha hl0 => ?_
  have L_0 : e2_gdM M p l e R s m args below meth c Q D cA A ads r0 30 al_a256_0 [] E_a256_0 h_a256_0 := by
    refine e2_indL (u := 2) (j := 3) (lo := 2147483648) (hi := 2147483668) (b := 2) (dd := 0) hl0 (by decide) rfl rfl (Or.inr ⟨rfl, rfl⟩) rfl ci_a256_0 cj_a256_0 ?_
    intro r_0 k_0 hk_0 hp_0 hs_0 hn_0
    have hl_0 : r_0.length ≤ 3 := hs_0.len rfl
    have ha_0 := ha.ext hp_0
    exact e2_fromM hen ha_0 hcall (e2_cutA_ok (e2_fa (fun al st E h hc => hn_0 al st E h hc) e2_fz)) (hC []) (X := e2x_168) ex2_168 30 ck_a256_0
  have EN_0 := e2_entL (u := 2) (j := 3) (lo := 2147483648) (hi := 2147483668) hl0 rfl rfl rfl ci_a256_0 cj_a256_0 L_0
  exact e2_from hen ha hcall (e2_cutA_ok (e2_fa (fun al st E h hc => EN_0 al st E h hc) e2_fz)) (hC []) (X := e2x_168) ex2_168 0 ck_a256_e
/-! a257 X9_goAhead -/
def as_a257 : List ev_V := [(2, 0, 0), (11, 0, 4294967295)]
def E_a257 : e2_E := [(2147483648, 2147583648, 0, 0), (2147483652, 2147483668, 1, 0)]
def an1302 : e2_Q6 := (an1279, an1054)
def an1303 : e2_Q6 := (an1283, an1219)
def an1304 : e2_Q7 := (an1302, an1303)
def an1305 : e2_Q6 := (an1268, an1062)
def an1306 : e2_Q7 := (an1305, an1291)
def an1307 : e2_Q8 := (an1304, an1306)
noncomputable def f_a257 : ev_H := (an1307 : e2_Q8)
noncomputable def q_a257_0 : ev_H := (an1307 : e2_Q8)
noncomputable def rs_a257 : e2_Rs := [((11, 2147483648, 2147483649), q_a257_0)]
noncomputable def s_a257 : e2_Sm := (169, as_a257, E_a257, f_a257, rs_a257)
noncomputable def S_a257 : List e2_Sm := [s_a256]
noncomputable def I_a257 : List e2_In := [(99, 2, e2x_99)]
set_option maxRecDepth 1000000 in
theorem co_a257 : e2_okSB E_a257.length as_a257 f_a257 rs_a257 = true := by decide +kernel
def al_a257_0 : List ev_V := [(2, 0, 0), (11, 2147483648, 2147483708), (1, 2, 4294967296)]
def E_a257_0 : e2_E := [(2147483648, 2147583648, 0, 0), (2147483652, 2147483668, 1, 0), (2147483648, 2147483708, 2, 0)]
noncomputable def h_a257_0 : ev_H := (an1307 : e2_Q8)
noncomputable def cl_a257_e : List (Nat × e2_S) := [(25, e2_cutL (al_a257_0.set 2 (11, 2147483648, 2147483708)) 2 (E_a257_0.take 2) h_a257_0)]
set_option maxRecDepth 1000000 in
theorem ck_a257_e : e2_run (e2_cal S_a257 I_a257 4000 1) (e2_fin rs_a257) e2x_169 (e2_bpL cl_a257_e) (e2_cutA cl_a257_e) 4000 (e2_seek e2x_169 0) (e2_al 3 as_a257) [] E_a257 f_a257 = true := by decide +kernel
noncomputable def cl_a257_0 : List (Nat × e2_S) := [(25, e2_cutL (al_a257_0.set 2 (13, 10, 2147483708)) 2 (E_a257_0.take 2) h_a257_0)]
set_option maxRecDepth 1000000 in
theorem ck_a257_0 : e2_runM (e2_cal S_a257 I_a257 4000 1) (e2_fin rs_a257) e2x_169 (e2_bpL cl_a257_0) (e2_cutA cl_a257_0) 4000 (e2_seek e2x_169 25) al_a257_0 [] E_a257_0 h_a257_0 = true := by decide +kernel
set_option maxRecDepth 1000000 in
theorem ci_a257_0 : e2_idl 2 (al_a257_0.set 2 (9, 0, 0)) = true := by decide +kernel
set_option maxRecDepth 1000000 in
theorem cj_a257_0 : e2_idh 2 8 h_a257_0 = true := by decide +kernel
theorem cs_a257 (hen : en_ok) (l : Launch) (hh : e2_hand_a l) : e2_smOk l 66 s_a257 := by
  refine e2_conG (H := 64) (n := 1) (C := evd_169) (S := S_a257) (I := I_a257) (fuel := 4000) hen ei_169 (e2_fa (cs_a256 hen l hh) e2_fz) (e2_fa ein_99 e2_fz) (by decide) co_a257 fun M d _ hC hcall p e R s m args below meth c Q D cA A ads r0 ha hl0 => ?_
  have L_0 : e2_gdM M p l e R s m args below meth c Q D cA A ads r0 25 al_a257_0 [] E_a257_0 h_a257_0 := by
    refine e2_indL (u := 2) (j := 2) (lo := 2147483648) (hi := 2147483708) (b := 2) (dd := 0) hl0 (by decide) rfl rfl (Or.inr ⟨rfl, rfl⟩) rfl ci_a257_0 cj_a257_0 ?_
    intro r_0 k_0 hk_0 hp_0 hs_0 hn_0
    have hl_0 : r_0.length ≤ 3 := hs_0.len rfl
    have ha_0 := ha.ext hp_0
    exact e2_fromM hen ha_0 hcall (e2_cutA_ok (e2_fa (fun al st E h hc => hn_0 al st E h hc) e2_fz)) (hC []) (X := e2x_169) ex2_169 25 ck_a257_0
  have EN_0 := e2_entL (u := 2) (j := 2) (lo := 2147483648) (hi := 2147483708) hl0 rfl rfl rfl ci_a257_0 cj_a257_0 L_0
  exact e2_from hen ha hcall (e2_cutA_ok (e2_fa (fun al st E h hc => EN_0 al st E h hc) e2_fz)) (hC []) (X := e2x_169) ex2_169 0 ck_a257_e
/-! a258 X9_will -/
def as_a258 : List ev_V := [(2, 0, 0), (11, 0, 4294967295), (11, 0, 4294967295)]
def E_a258 : e2_E := [(2147483648, 2147583648, 0, 0), (2147483652, 2147483668, 1, 0)]
noncomputable def f_a258 : ev_H := (an1307 : e2_Q8)
noncomputable def q_a258_0 : ev_H := (an1307 : e2_Q8)
noncomputable def rs_a258 : e2_Rs := [((11, 0, 4294967295), q_a258_0)]
noncomputable def s_a258 : e2_Sm := (139, as_a258, E_a258, f_a258, rs_a258)
noncomputable def S_a258 : List e2_Sm := [s_a257]
noncomputable def I_a258 : List e2_In := [(161, 2, e2x_161)]
set_option maxRecDepth 1000000 in
theorem ck_a258 : e2_run (e2_cal S_a258 I_a258 4000 1) (e2_fin rs_a258) e2x_139 (fun _ => false) (fun _ _ _ _ _ => false) 4000 (e2_seek e2x_139 0) (e2_al 3 as_a258) [] E_a258 f_a258 = true := by decide +kernel
set_option maxRecDepth 1000000 in
theorem co_a258 : e2_okSB E_a258.length as_a258 f_a258 rs_a258 = true := by decide +kernel
theorem cs_a258 (hen : en_ok) (l : Launch) (hh : e2_hand_a l) : e2_smOk l 68 s_a258 := e2_con0 (H := 66) (n := 1) (C := evd_139) (S := S_a258) (I := I_a258) (fuel := 4000) [] hen ei_139 (e2_fa (cs_a257 hen l hh) e2_fz) (e2_fa ein_161 e2_fz) (by decide) co_a258 ex2_139 ck_a258
/-! a259 X9_field -/
def as_a259 : List ev_V := [(2, 0, 0), (11, 0, 4294967295)]
def E_a259 : e2_E := [(2147483648, 2147583648, 0, 0), (2147483652, 2147483668, 1, 0)]
noncomputable def f_a259 : ev_H := (an1307 : e2_Q8)
noncomputable def q_a259_0 : ev_H := (an1307 : e2_Q8)
noncomputable def rs_a259 : e2_Rs := [((11, 0, 4294967295), q_a259_0)]
noncomputable def s_a259 : e2_Sm := (140, as_a259, E_a259, f_a259, rs_a259)
noncomputable def S_a259 : List e2_Sm := [s_a257]
noncomputable def I_a259 : List e2_In := []
set_option maxRecDepth 1000000 in
theorem ck_a259 : e2_run (e2_cal S_a259 I_a259 4000 0) (e2_fin rs_a259) e2x_140 (fun _ => false) (fun _ _ _ _ _ => false) 4000 (e2_seek e2x_140 0) (e2_al 2 as_a259) [] E_a259 f_a259 = true := by decide +kernel
set_option maxRecDepth 1000000 in
theorem co_a259 : e2_okSB E_a259.length as_a259 f_a259 rs_a259 = true := by decide +kernel
theorem cs_a259 (hen : en_ok) (l : Launch) (hh : e2_hand_a l) : e2_smOk l 67 s_a259 := e2_con0 (H := 66) (n := 0) (C := evd_140) (S := S_a259) (I := I_a259) (fuel := 4000) [] hen ei_140 (e2_fa (cs_a257 hen l hh) e2_fz) e2_fz (by decide) co_a259 ex2_140 ck_a259
/-! a260 X9_harm -/
def as_a260 : List ev_V := [(2, 0, 0)]
def E_a260 : e2_E := [(2147483648, 2147583648, 0, 0), (2147483652, 2147483668, 1, 0)]
noncomputable def f_a260 : ev_H := (an1209 : e2_Q8)
def an1308 : e2_Q7 := (an1207, an319)
def an1309 : e2_Q8 := (an1308, an1203)
noncomputable def q_a260_0 : ev_H := (an1309 : e2_Q8)
noncomputable def rs_a260 : e2_Rs := [((11, 2147483648, 2147483649), q_a260_0)]
noncomputable def s_a260 : e2_Sm := (141, as_a260, E_a260, f_a260, rs_a260)
noncomputable def S_a260 : List e2_Sm := [s_a237, s_a246]
noncomputable def I_a260 : List e2_In := []
set_option maxRecDepth 1000000 in
theorem ck_a260 : e2_run (e2_cal S_a260 I_a260 4000 0) (e2_fin rs_a260) e2x_141 (fun _ => false) (fun _ _ _ _ _ => false) 4000 (e2_seek e2x_141 0) (e2_al 1 as_a260) [] E_a260 f_a260 = true := by decide +kernel
set_option maxRecDepth 1000000 in
theorem co_a260 : e2_okSB E_a260.length as_a260 f_a260 rs_a260 = true := by decide +kernel
theorem cs_a260 (hen : en_ok) (l : Launch) (hh : e2_hand_a l) : e2_smOk l 63 s_a260 := e2_con0 (H := 62) (n := 0) (C := evd_141) (S := S_a260) (I := I_a260) (fuel := 4000) [] hen ei_141 (e2_fa ((cs_a237 hen l).mono (by decide)) (e2_fa (cs_a246 hen l hh) e2_fz)) e2_fz (by decide) co_a260 ex2_141 ck_a260
/-! a261 X9_turn -/
def as_a261 : List ev_V := [(2, 0, 0), (11, 0, 4294967295), (11, 0, 4294967295)]
def E_a261 : e2_E := [(2147483648, 2147583648, 0, 0), (2147483652, 2147483668, 1, 0)]
def an1310 : e2_Q5 := (an1137, an849)
def an1311 : e2_Q2 := (an477, an305)
def an1312 : e2_Q3 := (an1311, an51)
def an1313 : e2_Q4 := (an1312, an908)
def an1314 : e2_Q5 := (an788, an1313)
def an1315 : e2_Q6 := (an1310, an1314)
def an1316 : e2_Q7 := (an1315, an403)
def an1317 : e2_Q5 := (an797, an410)
def an1318 : e2_Q4 := (an491, an880)
def an1319 : e2_Q5 := (an1061, an1318)
def an1320 : e2_Q6 := (an1317, an1319)
def an1321 : e2_Q2 := (an495, an327)
def an1322 : e2_Q3 := (an1321, an210)
def an1323 : e2_Q4 := (an1322, an822)
def an1324 : e2_Q5 := (an803, an1323)
def an1325 : e2_Q6 := (an1324, an808)
def an1326 : e2_Q7 := (an1320, an1325)
def an1327 : e2_Q8 := (an1316, an1326)
noncomputable def f_a261 : ev_H := (an1327 : e2_Q8)
noncomputable def q_a261_0 : ev_H := (an1327 : e2_Q8)
noncomputable def rs_a261 : e2_Rs := [((11, 2147483647, 2147483651), q_a261_0)]
noncomputable def s_a261 : e2_Sm := (142, as_a261, E_a261, f_a261, rs_a261)
noncomputable def S_a261 : List e2_Sm := [s_a189, s_a205]
noncomputable def I_a261 : List e2_In := [(63, 1, e2x_63), (69, 3, e2x_69), (161, 2, e2x_161)]
set_option maxRecDepth 1000000 in
theorem ck_a261 : e2_run (e2_cal S_a261 I_a261 4000 1) (e2_fin rs_a261) e2x_142 (fun _ => false) (fun _ _ _ _ _ => false) 4000 (e2_seek e2x_142 0) (e2_al 3 as_a261) [] E_a261 f_a261 = true := by decide +kernel
set_option maxRecDepth 1000000 in
theorem co_a261 : e2_okSB E_a261.length as_a261 f_a261 rs_a261 = true := by decide +kernel
theorem cs_a261 (hen : en_ok) (l : Launch) (hh : e2_hand_a l) : e2_smOk l 71 s_a261 := e2_con0 (H := 69) (n := 1) (C := evd_142) (S := S_a261) (I := I_a261) (fuel := 4000) [] hen ei_142 (e2_fa ((cs_a189 hen l).mono (by decide)) (e2_fa (cs_a205 hen l hh) e2_fz)) (e2_fa ein_63 (e2_fa ein_69 (e2_fa ein_161 e2_fz))) (by decide) co_a261 ex2_142 ck_a261
/-! a262 X9_plain -/
def as_a262 : List ev_V := [(2, 0, 0)]
def E_a262 : e2_E := [(2147483648, 2147583648, 0, 0), (2147483652, 2147483668, 1, 0)]
noncomputable def f_a262 : ev_H := (an1327 : e2_Q8)
def an1328 : e2_Q5 := (an813, an1313)
def an1329 : e2_Q6 := (an1310, an1328)
def an1330 : e2_Q7 := (an1329, an403)
def an1331 : e2_Q3 := (an427, an463)
def an1332 : e2_Q4 := (an1331, an337)
def an1333 : e2_Q5 := (an1332, an1318)
def an1334 : e2_Q6 := (an426, an1333)
def an1335 : e2_Q4 := (an1322, an830)
def an1336 : e2_Q5 := (an803, an1335)
def an1337 : e2_Q6 := (an1336, an874)
def an1338 : e2_Q7 := (an1334, an1337)
def an1339 : e2_Q8 := (an1330, an1338)
noncomputable def q_a262_0 : ev_H := (an1339 : e2_Q8)
noncomputable def rs_a262 : e2_Rs := [((11, 2147483647, 2147483651), q_a262_0)]
noncomputable def s_a262 : e2_Sm := (143, as_a262, E_a262, f_a262, rs_a262)
noncomputable def S_a262 : List e2_Sm := [s_a189, s_a196, s_a206]
noncomputable def I_a262 : List e2_In := [(63, 1, e2x_63)]
set_option maxRecDepth 1000000 in
theorem ck_a262 : e2_run (e2_cal S_a262 I_a262 4000 1) (e2_fin rs_a262) e2x_143 (fun _ => false) (fun _ _ _ _ _ => false) 4000 (e2_seek e2x_143 0) (e2_al 1 as_a262) [] E_a262 f_a262 = true := by decide +kernel
set_option maxRecDepth 1000000 in
theorem co_a262 : e2_okSB E_a262.length as_a262 f_a262 rs_a262 = true := by decide +kernel
theorem cs_a262 (hen : en_ok) (l : Launch) (hh : e2_hand_a l) : e2_smOk l 71 s_a262 := e2_con0 (H := 69) (n := 1) (C := evd_143) (S := S_a262) (I := I_a262) (fuel := 4000) [] hen ei_143 (e2_fa ((cs_a189 hen l).mono (by decide)) (e2_fa ((cs_a196 hen l hh).mono (by decide)) (e2_fa (cs_a206 hen l hh) e2_fz))) (e2_fa ein_63 e2_fz) (by decide) co_a262 ex2_143 ck_a262
/-! a263 X9_orders -/
def as_a263 : List ev_V := [(2, 0, 0), (11, 0, 4294967295)]
def E_a263 : e2_E := [(2147483648, 2147583648, 0, 0), (2147483652, 2147483668, 1, 0)]
def an1340 : e2_Q7 := (an1315, an941)
def an1341 : e2_Q6 := (an1317, an1062)
def an1342 : e2_Q5 := (an807, an930)
def an1343 : e2_Q6 := (an1324, an1342)
def an1344 : e2_Q7 := (an1341, an1343)
def an1345 : e2_Q8 := (an1340, an1344)
noncomputable def f_a263 : ev_H := (an1345 : e2_Q8)
noncomputable def q_a263_0 : ev_H := (an1345 : e2_Q8)
noncomputable def rs_a263 : e2_Rs := [((11, 0, 4294967295), q_a263_0)]
noncomputable def s_a263 : e2_Sm := (144, as_a263, E_a263, f_a263, rs_a263)
noncomputable def S_a263 : List e2_Sm := [s_a189, s_a211]
noncomputable def I_a263 : List e2_In := [(63, 1, e2x_63), (164, 1, e2x_164), (165, 2, e2x_165), (291, 1, e2x_291)]
set_option maxRecDepth 1000000 in
theorem ck_a263 : e2_run (e2_cal S_a263 I_a263 4000 2) (e2_fin rs_a263) e2x_144 (fun _ => false) (fun _ _ _ _ _ => false) 4000 (e2_seek e2x_144 0) (e2_al 2 as_a263) [] E_a263 f_a263 = true := by decide +kernel
set_option maxRecDepth 1000000 in
theorem co_a263 : e2_okSB E_a263.length as_a263 f_a263 rs_a263 = true := by decide +kernel
theorem cs_a263 (hen : en_ok) (l : Launch) (hh : e2_hand_a l) : e2_smOk l 65 s_a263 := e2_con0 (H := 62) (n := 2) (C := evd_144) (S := S_a263) (I := I_a263) (fuel := 4000) [] hen ei_144 (e2_fa ((cs_a189 hen l).mono (by decide)) (e2_fa (cs_a211 hen l hh) e2_fz)) (e2_fa ein_63 (e2_fa ein_164 (e2_fa ein_165 (e2_fa ein_291 e2_fz)))) (by decide) co_a263 ex2_144 ck_a263
/-! a264 X9_write -/
def as_a264 : List ev_V := [(2, 0, 0), (11, 0, 4294967295), (11, 0, 4294967295), (11, 0, 4294967295)]
def E_a264 : e2_E := [(2147483648, 2147583648, 0, 0), (2147483652, 2147483668, 1, 0)]
def an1346 : e2_Q2 := (an1134, an1011)
def an1347 : e2_Q3 := (an1346, an5)
def an1348 : e2_Q4 := (an1347, an13)
def an1349 : e2_Q5 := (an1348, an379)
def an1350 : e2_Q6 := (an1349, an1314)
def an1351 : e2_Q7 := (an1350, an403)
def an1352 : e2_Q7 := (an1341, an1325)
def an1353 : e2_Q8 := (an1351, an1352)
noncomputable def f_a264 : ev_H := (an1353 : e2_Q8)
noncomputable def q_a264_0 : ev_H := (an1353 : e2_Q8)
noncomputable def rs_a264 : e2_Rs := [((11, 2147483647, 2147483837), q_a264_0)]
noncomputable def s_a264 : e2_Sm := (145, as_a264, E_a264, f_a264, rs_a264)
noncomputable def S_a264 : List e2_Sm := [s_a189, s_a227]
noncomputable def I_a264 : List e2_In := [(63, 1, e2x_63), (162, 2, e2x_162)]
set_option maxRecDepth 1000000 in
theorem ck_a264 : e2_run (e2_cal S_a264 I_a264 4000 1) (e2_fin rs_a264) e2x_145 (fun _ => false) (fun _ _ _ _ _ => false) 4000 (e2_seek e2x_145 0) (e2_al 6 as_a264) [] E_a264 f_a264 = true := by decide +kernel
set_option maxRecDepth 1000000 in
theorem co_a264 : e2_okSB E_a264.length as_a264 f_a264 rs_a264 = true := by decide +kernel
theorem cs_a264 (hen : en_ok) (l : Launch) (hh : e2_hand_a l) : e2_smOk l 72 s_a264 := e2_con0 (H := 70) (n := 1) (C := evd_145) (S := S_a264) (I := I_a264) (fuel := 4000) [] hen ei_145 (e2_fa ((cs_a189 hen l).mono (by decide)) (e2_fa (cs_a227 hen l hh) e2_fz)) (e2_fa ein_63 (e2_fa ein_162 e2_fz)) (by decide) co_a264 ex2_145 ck_a264
/-! a265 X9_watch -/
def as_a265 : List ev_V := [(2, 0, 0)]
def E_a265 : e2_E := [(2147483648, 2147583648, 0, 0), (2147483652, 2147483668, 1, 0)]
def an1354 : e2_Q4 := (an1312, an59)
def an1355 : e2_Q5 := (an788, an1354)
def an1356 : e2_Q6 := (an1310, an1355)
def an1357 : e2_Q7 := (an1356, an403)
def an1358 : e2_Q8 := (an1357, an1352)
noncomputable def f_a265 : ev_H := (an1358 : e2_Q8)
def an1359 : e2_Q5 := (an813, an1354)
def an1360 : e2_Q6 := (an1310, an1359)
def an1361 : e2_Q7 := (an1360, an403)
def an1362 : e2_Q6 := (an443, an1062)
def an1363 : e2_Q6 := (an1336, an808)
def an1364 : e2_Q7 := (an1362, an1363)
def an1365 : e2_Q8 := (an1361, an1364)
noncomputable def q_a265_0 : ev_H := (an1365 : e2_Q8)
noncomputable def rs_a265 : e2_Rs := [((11, 0, 4294967295), q_a265_0)]
noncomputable def s_a265 : e2_Sm := (146, as_a265, E_a265, f_a265, rs_a265)
noncomputable def S_a265 : List e2_Sm := [s_a189, s_a228]
noncomputable def I_a265 : List e2_In := []
set_option maxRecDepth 1000000 in
theorem ck_a265 : e2_run (e2_cal S_a265 I_a265 4000 0) (e2_fin rs_a265) e2x_146 (fun _ => false) (fun _ _ _ _ _ => false) 4000 (e2_seek e2x_146 0) (e2_al 1 as_a265) [] E_a265 f_a265 = true := by decide +kernel
set_option maxRecDepth 1000000 in
theorem co_a265 : e2_okSB E_a265.length as_a265 f_a265 rs_a265 = true := by decide +kernel
theorem cs_a265 (hen : en_ok) (l : Launch) (hh : e2_hand_a l) : e2_smOk l 64 s_a265 := e2_con0 (H := 63) (n := 0) (C := evd_146) (S := S_a265) (I := I_a265) (fuel := 4000) [] hen ei_146 (e2_fa ((cs_a189 hen l).mono (by decide)) (e2_fa (cs_a228 hen l hh) e2_fz)) e2_fz (by decide) co_a265 ex2_146 ck_a265
/-! a266 X9_cows -/
def as_a266 : List ev_V := [(2, 0, 0), (11, 0, 4294967295), (11, 0, 4294967295)]
def E_a266 : e2_E := [(2147483648, 2147583648, 0, 0), (2147483652, 2147483668, 1, 0)]
noncomputable def f_a266 : ev_H := (an1358 : e2_Q8)
noncomputable def q_a266_0 : ev_H := (an1358 : e2_Q8)
noncomputable def rs_a266 : e2_Rs := [((11, 0, 4294967295), q_a266_0)]
noncomputable def s_a266 : e2_Sm := (147, as_a266, E_a266, f_a266, rs_a266)
noncomputable def S_a266 : List e2_Sm := [s_a189, s_a229]
noncomputable def I_a266 : List e2_In := [(161, 2, e2x_161), (164, 1, e2x_164), (291, 1, e2x_291)]
set_option maxRecDepth 1000000 in
theorem ck_a266 : e2_run (e2_cal S_a266 I_a266 4000 1) (e2_fin rs_a266) e2x_147 (fun _ => false) (fun _ _ _ _ _ => false) 4000 (e2_seek e2x_147 0) (e2_al 3 as_a266) [] E_a266 f_a266 = true := by decide +kernel
set_option maxRecDepth 1000000 in
theorem co_a266 : e2_okSB E_a266.length as_a266 f_a266 rs_a266 = true := by decide +kernel
theorem cs_a266 (hen : en_ok) (l : Launch) (hh : e2_hand_a l) : e2_smOk l 65 s_a266 := e2_con0 (H := 63) (n := 1) (C := evd_147) (S := S_a266) (I := I_a266) (fuel := 4000) [] hen ei_147 (e2_fa ((cs_a189 hen l).mono (by decide)) (e2_fa (cs_a229 hen l hh) e2_fz)) (e2_fa ein_161 (e2_fa ein_164 (e2_fa ein_291 e2_fz))) (by decide) co_a266 ex2_147 ck_a266
/-! a267 X9_duel -/
def as_a267 : List ev_V := [(2, 0, 0), (11, 0, 4294967295), (11, 0, 4294967295), (11, 0, 4294967295), (11, 0, 4294967295)]
def E_a267 : e2_E := [(2147483648, 2147583648, 0, 0), (2147483652, 2147483668, 1, 0)]
noncomputable def f_a267 : ev_H := (an1358 : e2_Q8)
noncomputable def q_a267_0 : ev_H := (an1358 : e2_Q8)
noncomputable def rs_a267 : e2_Rs := [((11, 0, 4294967295), q_a267_0)]
noncomputable def s_a267 : e2_Sm := (148, as_a267, E_a267, f_a267, rs_a267)
noncomputable def S_a267 : List e2_Sm := [s_a189, s_a232]
noncomputable def I_a267 : List e2_In := [(161, 2, e2x_161), (164, 1, e2x_164), (165, 2, e2x_165)]
set_option maxRecDepth 1000000 in
theorem ck_a267 : e2_run (e2_cal S_a267 I_a267 4000 2) (e2_fin rs_a267) e2x_148 (fun _ => false) (fun _ _ _ _ _ => false) 4000 (e2_seek e2x_148 0) (e2_al 6 as_a267) [] E_a267 f_a267 = true := by decide +kernel
set_option maxRecDepth 1000000 in
theorem co_a267 : e2_okSB E_a267.length as_a267 f_a267 rs_a267 = true := by decide +kernel
theorem cs_a267 (hen : en_ok) (l : Launch) (hh : e2_hand_a l) : e2_smOk l 68 s_a267 := e2_con0 (H := 65) (n := 2) (C := evd_148) (S := S_a267) (I := I_a267) (fuel := 4000) [] hen ei_148 (e2_fa ((cs_a189 hen l).mono (by decide)) (e2_fa (cs_a232 hen l hh) e2_fz)) (e2_fa ein_161 (e2_fa ein_164 (e2_fa ein_165 e2_fz))) (by decide) co_a267 ex2_148 ck_a267
/-! a268 X9_heard -/
def as_a268 : List ev_V := [(2, 0, 0), (11, 0, 4294967295), (11, 0, 4294967295), (11, 0, 4294967295), (11, 2147483648, 2147483649)]
def E_a268 : e2_E := [(2147483648, 2147583648, 0, 0), (2147483652, 2147483668, 1, 0)]
def an1366 : e2_Q4 := (an1136, an543)
def an1367 : e2_Q5 := (an1366, an29)
def an1368 : e2_Q6 := (an1367, an61)
def an1369 : e2_Q7 := (an1368, an551)
def an1370 : e2_Q8 := (an1369, an569)
noncomputable def f_a268 : ev_H := (an1370 : e2_Q8)
noncomputable def q_a268_0 : ev_H := (an1370 : e2_Q8)
noncomputable def rs_a268 : e2_Rs := [((11, 2147483647, 2147483677), q_a268_0)]
noncomputable def s_a268 : e2_Sm := (150, as_a268, E_a268, f_a268, rs_a268)
noncomputable def S_a268 : List e2_Sm := [s_a14]
noncomputable def I_a268 : List e2_In := []
set_option maxRecDepth 1000000 in
theorem ck_a268 : e2_run (e2_cal S_a268 I_a268 4000 0) (e2_fin rs_a268) e2x_150 (fun _ => false) (fun _ _ _ _ _ => false) 4000 (e2_seek e2x_150 0) (e2_al 5 as_a268) [] E_a268 f_a268 = true := by decide +kernel
set_option maxRecDepth 1000000 in
theorem co_a268 : e2_okSB E_a268.length as_a268 f_a268 rs_a268 = true := by decide +kernel
theorem cs_a268 (hen : en_ok) (l : Launch) : e2_smOk l 3 s_a268 := e2_con0 (H := 2) (n := 0) (C := evd_150) (S := S_a268) (I := I_a268) (fuel := 4000) [] hen ei_150 (e2_fa (cs_a14 hen l) e2_fz) e2_fz (by decide) co_a268 ex2_150 ck_a268
/-! a269 X9_fit -/
def as_a269 : List ev_V := [(2, 0, 0), (11, 0, 4294967295)]
def E_a269 : e2_E := [(2147483648, 2147583648, 0, 0), (2147483652, 2147483668, 1, 0)]
def an1371 : e2_Q7 := (an1368, an581)
def an1372 : e2_Q8 := (an1371, an569)
noncomputable def f_a269 : ev_H := (an1372 : e2_Q8)
noncomputable def q_a269_0 : ev_H := (an1372 : e2_Q8)
noncomputable def rs_a269 : e2_Rs := [((11, 2147483648, 2147549184), q_a269_0)]
noncomputable def s_a269 : e2_Sm := (153, as_a269, E_a269, f_a269, rs_a269)
noncomputable def S_a269 : List e2_Sm := [s_a33]
noncomputable def I_a269 : List e2_In := []
set_option maxRecDepth 1000000 in
theorem ck_a269 : e2_run (e2_cal S_a269 I_a269 4000 0) (e2_fin rs_a269) e2x_153 (fun _ => false) (fun _ _ _ _ _ => false) 4000 (e2_seek e2x_153 0) (e2_al 2 as_a269) [] E_a269 f_a269 = true := by decide +kernel
set_option maxRecDepth 1000000 in
theorem co_a269 : e2_okSB E_a269.length as_a269 f_a269 rs_a269 = true := by decide +kernel
theorem cs_a269 (hen : en_ok) (l : Launch) : e2_smOk l 20 s_a269 := e2_con0 (H := 19) (n := 0) (C := evd_153) (S := S_a269) (I := I_a269) (fuel := 4000) [] hen ei_153 (e2_fa (cs_a33 hen l) e2_fz) e2_fz (by decide) co_a269 ex2_153 ck_a269
/-! a270 X9_sure -/
def as_a270 : List ev_V := [(2, 0, 0), (11, 0, 4294967295), (11, 0, 4294967295), (11, 0, 4294967295)]
def E_a270 : e2_E := [(2147483648, 2147583648, 0, 0), (2147483652, 2147483668, 1, 0)]
noncomputable def f_a270 : ev_H := (an1372 : e2_Q8)
noncomputable def q_a270_0 : ev_H := (an1372 : e2_Q8)
noncomputable def rs_a270 : e2_Rs := [((11, 2147483646, 2147483649), q_a270_0)]
noncomputable def s_a270 : e2_Sm := (154, as_a270, E_a270, f_a270, rs_a270)
noncomputable def S_a270 : List e2_Sm := [s_a34]
noncomputable def I_a270 : List e2_In := []
set_option maxRecDepth 1000000 in
theorem ck_a270 : e2_run (e2_cal S_a270 I_a270 4000 0) (e2_fin rs_a270) e2x_154 (fun _ => false) (fun _ _ _ _ _ => false) 4000 (e2_seek e2x_154 0) (e2_al 4 as_a270) [] E_a270 f_a270 = true := by decide +kernel
set_option maxRecDepth 1000000 in
theorem co_a270 : e2_okSB E_a270.length as_a270 f_a270 rs_a270 = true := by decide +kernel
theorem cs_a270 (hen : en_ok) (l : Launch) : e2_smOk l 22 s_a270 := e2_con0 (H := 21) (n := 0) (C := evd_154) (S := S_a270) (I := I_a270) (fuel := 4000) [] hen ei_154 (e2_fa (cs_a34 hen l) e2_fz) e2_fz (by decide) co_a270 ex2_154 ck_a270
/-! a271 X9_ask -/
def as_a271 : List ev_V := [(2, 0, 0), (11, 0, 4294967295), (11, 0, 4294967295)]
def E_a271 : e2_E := [(2147483648, 2147583648, 0, 0), (2147483652, 2147483668, 1, 0)]
noncomputable def f_a271 : ev_H := (an1372 : e2_Q8)
noncomputable def q_a271_0 : ev_H := (an1372 : e2_Q8)
noncomputable def rs_a271 : e2_Rs := [((11, 2147483647, 2147549184), q_a271_0)]
noncomputable def s_a271 : e2_Sm := (155, as_a271, E_a271, f_a271, rs_a271)
noncomputable def S_a271 : List e2_Sm := [s_a35]
noncomputable def I_a271 : List e2_In := []
set_option maxRecDepth 1000000 in
theorem ck_a271 : e2_run (e2_cal S_a271 I_a271 4000 0) (e2_fin rs_a271) e2x_155 (fun _ => false) (fun _ _ _ _ _ => false) 4000 (e2_seek e2x_155 0) (e2_al 3 as_a271) [] E_a271 f_a271 = true := by decide +kernel
set_option maxRecDepth 1000000 in
theorem co_a271 : e2_okSB E_a271.length as_a271 f_a271 rs_a271 = true := by decide +kernel
theorem cs_a271 (hen : en_ok) (l : Launch) : e2_smOk l 22 s_a271 := e2_con0 (H := 21) (n := 0) (C := evd_155) (S := S_a271) (I := I_a271) (fuel := 4000) [] hen ei_155 (e2_fa (cs_a35 hen l) e2_fz) e2_fz (by decide) co_a271 ex2_155 ck_a271
/-! a272 X9_about -/
def as_a272 : List ev_V := [(2, 0, 0), (11, 0, 4294967295)]
def E_a272 : e2_E := [(2147483648, 2147583648, 0, 0), (2147483652, 2147483668, 1, 0)]
def an1373 : e2_Q4 := (an1150, an59)
def an1374 : e2_Q5 := (an450, an1373)
def an1375 : e2_Q6 := (an1138, an1374)
def an1376 : e2_Q7 := (an1375, an268)
def an1377 : e2_Q3 := (an322, an756)
def an1378 : e2_Q4 := (an1377, an140)
def an1379 : e2_Q5 := (an1378, an156)
def an1380 : e2_Q6 := (an1379, an561)
def an1381 : e2_Q4 := (an211, an822)
def an1382 : e2_Q5 := (an273, an1381)
def an1383 : e2_Q6 := (an1382, an251)
def an1384 : e2_Q7 := (an1380, an1383)
def an1385 : e2_Q8 := (an1376, an1384)
noncomputable def f_a272 : ev_H := (an1385 : e2_Q8)
noncomputable def q_a272_0 : ev_H := (an1385 : e2_Q8)
noncomputable def rs_a272 : e2_Rs := [((11, 0, 4294967295), q_a272_0)]
noncomputable def s_a272 : e2_Sm := (158, as_a272, E_a272, f_a272, rs_a272)
noncomputable def S_a272 : List e2_Sm := []
noncomputable def I_a272 : List e2_In := []
set_option maxRecDepth 1000000 in
theorem ck_a272 : e2_run (e2_cal S_a272 I_a272 4000 0) (e2_fin rs_a272) e2x_158 (fun _ => false) (fun _ _ _ _ _ => false) 4000 (e2_seek e2x_158 0) (e2_al 2 as_a272) [] E_a272 f_a272 = true := by decide +kernel
set_option maxRecDepth 1000000 in
theorem co_a272 : e2_okSB E_a272.length as_a272 f_a272 rs_a272 = true := by decide +kernel
theorem cs_a272 (hen : en_ok) (l : Launch) : e2_smOk l 1 s_a272 := e2_con0 (H := 0) (n := 0) (C := evd_158) (S := S_a272) (I := I_a272) (fuel := 4000) [] hen ei_158 e2_fz e2_fz (by decide) co_a272 ex2_158 ck_a272
