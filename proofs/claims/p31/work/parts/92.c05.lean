/-! CONTRACTS c, printed by a program -/
/-! c251 X9_readings -/
def as_c251 : List ev_V := [(2, 0, 0)]
def E_c251 : e2_E := [(2147483648, 2147583648, 0, 0), (2147483652, 2147483668, 1, 0)]
noncomputable def f_c251 : ev_H := (cn1199 : e2_Q8)
noncomputable def q_c251_0 : ev_H := (cn1208 : e2_Q8)
noncomputable def rs_c251 : e2_Rs := [((11, 0, 4294967295), q_c251_0)]
noncomputable def s_c251 : e2_Sm := (135, as_c251, E_c251, f_c251, rs_c251)
noncomputable def S_c251 : List e2_Sm := [s_c245]
noncomputable def I_c251 : List e2_In := []
set_option maxRecDepth 1000000 in
theorem ck_c251 : e2_run (e2_cal S_c251 I_c251 4000 0) (e2_fin rs_c251) e2x_135 (fun _ => false) (fun _ _ _ _ _ => false) 4000 (e2_seek e2x_135 0) (e2_al 1 as_c251) [] E_c251 f_c251 = true := by decide +kernel
set_option maxRecDepth 1000000 in
theorem co_c251 : e2_okSB E_c251.length as_c251 f_c251 rs_c251 = true := by decide +kernel
theorem cs_c251 (hen : en_ok) (l : Launch) (hh : e2_hand_c l) : e2_smOk l 62 s_c251 := e2_con0 (H := 61) (n := 0) (C := evd_135) (S := S_c251) (I := I_c251) (fuel := 4000) [] hen ei_135 (e2_fa (cs_c245 hen l hh) e2_fz) e2_fz (by decide) co_c251 ex2_135 ck_c251
/-! c252 X9_taken -/
def as_c252 : List ev_V := [(2, 0, 0)]
def E_c252 : e2_E := [(2147483648, 2147583648, 0, 0), (2147483652, 2147483668, 1, 0)]
def cn1252 : e2_Q3 := (cn481, cn905)
def cn1253 : e2_Q4 := (cn52, cn1252)
def cn1254 : e2_Q5 := (cn1052, cn1253)
def cn1255 : e2_Q6 := (cn1187, cn1254)
def cn1256 : e2_Q7 := (cn1255, cn1190)
def cn1257 : e2_Q5 := (cn342, cn828)
def cn1258 : e2_Q6 := (cn1257, cn1196)
def cn1259 : e2_Q7 := (cn1193, cn1258)
def cn1260 : e2_Q8 := (cn1256, cn1259)
noncomputable def f_c252 : ev_H := (cn1260 : e2_Q8)
def cn1261 : e2_Q7 := (cn1255, cn318)
def cn1262 : e2_Q5 := (cn366, cn828)
def cn1263 : e2_Q6 := (cn1262, cn1205)
def cn1264 : e2_Q7 := (cn1203, cn1263)
def cn1265 : e2_Q8 := (cn1261, cn1264)
noncomputable def q_c252_0 : ev_H := (cn1265 : e2_Q8)
noncomputable def rs_c252 : e2_Rs := [((11, 2147483647, 2147483668), q_c252_0)]
noncomputable def s_c252 : e2_Sm := (136, as_c252, E_c252, f_c252, rs_c252)
noncomputable def S_c252 : List e2_Sm := [s_c246]
noncomputable def I_c252 : List e2_In := [(63, 1, e2x_63), (64, 2, e2x_64)]
set_option maxRecDepth 1000000 in
theorem co_c252 : e2_okSB E_c252.length as_c252 f_c252 rs_c252 = true := by decide +kernel
def al_c252_0 : List ev_V := [(2, 0, 0), (1, 2, 4294967296)]
def E_c252_0 : e2_E := [(2147483648, 2147583648, 0, 0), (2147483652, 2147483668, 1, 0), (2147483648, 2147483668, 2, 0)]
noncomputable def h_c252_0 : ev_H := (cn1265 : e2_Q8)
noncomputable def cl_c252_e : List (Nat × e2_S) := [(18, e2_cutL (al_c252_0.set 1 (11, 2147483648, 2147483668)) 2 (E_c252_0.take 2) h_c252_0)]
set_option maxRecDepth 1000000 in
theorem ck_c252_e : e2_run (e2_cal S_c252 I_c252 4000 1) (e2_fin rs_c252) e2x_136 (e2_bpL cl_c252_e) (e2_cutA cl_c252_e) 4000 (e2_seek e2x_136 0) (e2_al 2 as_c252) [] E_c252 f_c252 = true := by decide +kernel
noncomputable def cl_c252_0 : List (Nat × e2_S) := [(18, e2_cutL (al_c252_0.set 1 (13, 10, 2147483668)) 2 (E_c252_0.take 2) h_c252_0)]
set_option maxRecDepth 1000000 in
theorem ck_c252_0 : e2_runM (e2_cal S_c252 I_c252 4000 1) (e2_fin rs_c252) e2x_136 (e2_bpL cl_c252_0) (e2_cutA cl_c252_0) 4000 (e2_seek e2x_136 18) al_c252_0 [] E_c252_0 h_c252_0 = true := by decide +kernel
set_option maxRecDepth 1000000 in
theorem ci_c252_0 : e2_idl 2 (al_c252_0.set 1 (9, 0, 0)) = true := by decide +kernel
set_option maxRecDepth 1000000 in
theorem cj_c252_0 : e2_idh 2 8 h_c252_0 = true := by decide +kernel
theorem cs_c252 (hen : en_ok) (l : Launch) (hh : e2_hand_c l) : e2_smOk l 64 s_c252 := by
  refine e2_conG (H := 62) (n := 1) (C := evd_136) (S := S_c252) (I := I_c252) (fuel := 4000) hen ei_136 (e2_fa (cs_c246 hen l hh) e2_fz) (e2_fa ein_63 (e2_fa ein_64 e2_fz)) (by decide) co_c252 fun M d _ hC hcall p e R s m args below meth c Q D cA A ads r0 ha hl0 => ?_
  have L_0 : e2_gdM M p l e R s m args below meth c Q D cA A ads r0 18 al_c252_0 [] E_c252_0 h_c252_0 := by
    refine e2_indL (u := 2) (j := 1) (lo := 2147483648) (hi := 2147483668) (b := 2) (dd := 0) hl0 (by decide) rfl rfl (Or.inr ⟨rfl, rfl⟩) rfl ci_c252_0 cj_c252_0 ?_
    intro r_0 k_0 hk_0 hp_0 hs_0 hn_0
    have hl_0 : r_0.length ≤ 3 := hs_0.len rfl
    have ha_0 := ha.ext hp_0
    exact e2_fromM hen ha_0 hcall (e2_cutA_ok (e2_fa (fun al st E h hc => hn_0 al st E h hc) e2_fz)) (hC []) (X := e2x_136) ex2_136 18 ck_c252_0
  have EN_0 := e2_entL (u := 2) (j := 1) (lo := 2147483648) (hi := 2147483668) hl0 rfl rfl rfl ci_c252_0 cj_c252_0 L_0
  exact e2_from hen ha hcall (e2_cutA_ok (e2_fa (fun al st E h hc => EN_0 al st E h hc) e2_fz)) (hC []) (X := e2x_136) ex2_136 0 ck_c252_e
/-! c253 X9_weight -/
def as_c253 : List ev_V := [(2, 0, 0)]
def E_c253 : e2_E := [(2147483648, 2147583648, 0, 0), (2147483652, 2147483668, 1, 0)]
noncomputable def f_c253 : ev_H := (cn1199 : e2_Q8)
noncomputable def q_c253_0 : ev_H := (cn1208 : e2_Q8)
noncomputable def rs_c253 : e2_Rs := [((11, 0, 4294967295), q_c253_0)]
noncomputable def s_c253 : e2_Sm := (137, as_c253, E_c253, f_c253, rs_c253)
noncomputable def S_c253 : List e2_Sm := [s_c245]
noncomputable def I_c253 : List e2_In := [(89, 1, e2x_89), (90, 5, e2x_90)]
set_option maxRecDepth 1000000 in
theorem ck_c253 : e2_run (e2_cal S_c253 I_c253 4000 2) (e2_fin rs_c253) e2x_137 (fun _ => false) (fun _ _ _ _ _ => false) 4000 (e2_seek e2x_137 0) (e2_al 1 as_c253) [] E_c253 f_c253 = true := by decide +kernel
set_option maxRecDepth 1000000 in
theorem co_c253 : e2_okSB E_c253.length as_c253 f_c253 rs_c253 = true := by decide +kernel
theorem cs_c253 (hen : en_ok) (l : Launch) (hh : e2_hand_c l) : e2_smOk l 64 s_c253 := e2_con0 (H := 61) (n := 2) (C := evd_137) (S := S_c253) (I := I_c253) (fuel := 4000) [] hen ei_137 (e2_fa (cs_c245 hen l hh) e2_fz) (e2_fa ein_89 (e2_fa ein_90 e2_fz)) (by decide) co_c253 ex2_137 ck_c253
/-! c254 X9_does -/
def as_c254 : List ev_V := [(2, 0, 0), (11, 0, 4294967295)]
def E_c254 : e2_E := [(2147483648, 2147583648, 0, 0), (2147483652, 2147483668, 1, 0)]
noncomputable def f_c254 : ev_H := (cn1214 : e2_Q8)
noncomputable def q_c254_0 : ev_H := (cn1214 : e2_Q8)
noncomputable def rs_c254 : e2_Rs := [((11, 0, 4294967295), q_c254_0)]
noncomputable def s_c254 : e2_Sm := (138, as_c254, E_c254, f_c254, rs_c254)
noncomputable def S_c254 : List e2_Sm := [s_c236, s_c246]
noncomputable def I_c254 : List e2_In := [(161, 2, e2x_161)]
set_option maxRecDepth 1000000 in
theorem ck_c254 : e2_run (e2_cal S_c254 I_c254 4000 1) (e2_fin rs_c254) e2x_138 (fun _ => false) (fun _ _ _ _ _ => false) 4000 (e2_seek e2x_138 0) (e2_al 2 as_c254) [] E_c254 f_c254 = true := by decide +kernel
set_option maxRecDepth 1000000 in
theorem co_c254 : e2_okSB E_c254.length as_c254 f_c254 rs_c254 = true := by decide +kernel
theorem cs_c254 (hen : en_ok) (l : Launch) (hh : e2_hand_c l) : e2_smOk l 64 s_c254 := e2_con0 (H := 62) (n := 1) (C := evd_138) (S := S_c254) (I := I_c254) (fuel := 4000) [] hen ei_138 (e2_fa ((cs_c236 hen l).mono (by decide)) (e2_fa (cs_c246 hen l hh) e2_fz)) (e2_fa ein_161 e2_fz) (by decide) co_c254 ex2_138 ck_c254
/-! c255 X9_readAll -/
def as_c255 : List ev_V := [(2, 0, 0), (2, 40, 0)]
def E_c255 : e2_E := [(2147483648, 2147583648, 0, 0), (2147483652, 2147483668, 1, 0)]
def cn1266 : e2_Q4 := (cn1078, cn284)
def cn1267 : e2_Q5 := (cn1186, cn1266)
def cn1268 : e2_Q6 := (cn1267, cn1081)
def cn1269 : e2_Q7 := (cn1268, cn1190)
def cn1270 : e2_Q4 := (cn1085, cn327)
def cn1271 : e2_Q5 := (cn1043, cn1270)
def cn1272 : e2_Q6 := (cn1271, cn1045)
def cn1273 : e2_Q7 := (cn1272, cn1197)
def cn1274 : e2_Q8 := (cn1269, cn1273)
noncomputable def f_c255 : ev_H := (cn1274 : e2_Q8)
def cn1275 : e2_Q7 := (cn1268, cn318)
def cn1276 : e2_Q5 := (cn360, cn495)
def cn1277 : e2_Q6 := (cn1271, cn1276)
def cn1278 : e2_Q7 := (cn1277, cn1206)
def cn1279 : e2_Q8 := (cn1275, cn1278)
noncomputable def q_c255_0 : ev_H := (cn1279 : e2_Q8)
noncomputable def rs_c255 : e2_Rs := [((11, 0, 4294967295), q_c255_0)]
noncomputable def s_c255 : e2_Sm := (166, as_c255, E_c255, f_c255, rs_c255)
noncomputable def S_c255 : List e2_Sm := [s_c3, s_c235]
noncomputable def I_c255 : List e2_In := []
set_option maxRecDepth 1000000 in
theorem ck_c255 : e2_run (e2_cal S_c255 I_c255 4000 0) (e2_fin rs_c255) e2x_166 (fun _ => false) (fun _ _ _ _ _ => false) 4000 (e2_seek e2x_166 0) (e2_al 3 as_c255) [] E_c255 f_c255 = true := by decide +kernel
set_option maxRecDepth 1000000 in
theorem co_c255 : e2_okSB E_c255.length as_c255 f_c255 rs_c255 = true := by decide +kernel
theorem cs_c255 (hen : en_ok) (l : Launch) (hh : e2_hand_c l) : e2_smOk l 61 s_c255 := e2_con0 (H := 60) (n := 0) (C := evd_166) (S := S_c255) (I := I_c255) (fuel := 4000) [] hen ei_166 (e2_fa (hh _ hm_c3) (e2_fa ((cs_c235 hen l).mono (by decide)) e2_fz)) e2_fz (by decide) co_c255 ex2_166 ck_c255
/-! c256 X9_passYear -/
def as_c256 : List ev_V := [(2, 0, 0), (2, 40, 0)]
def E_c256 : e2_E := [(2147483648, 2147583648, 0, 0), (2147483652, 2147483668, 1, 0)]
def cn1280 : e2_Q4 := (cn1078, cn1209)
def cn1281 : e2_Q5 := (cn1221, cn1280)
def cn1282 : e2_Q6 := (cn1281, cn1081)
def cn1283 : e2_Q4 := (cn1127, cn306)
def cn1284 : e2_Q5 := (cn1055, cn1283)
def cn1285 : e2_Q5 := (cn316, cn514)
def cn1286 : e2_Q6 := (cn1284, cn1285)
def cn1287 : e2_Q7 := (cn1282, cn1286)
def cn1288 : e2_Q4 := (cn529, cn500)
def cn1289 : e2_Q5 := (cn342, cn1288)
def cn1290 : e2_Q5 := (cn1195, cn1229)
def cn1291 : e2_Q6 := (cn1289, cn1290)
def cn1292 : e2_Q7 := (cn1272, cn1291)
def cn1293 : e2_Q8 := (cn1287, cn1292)
noncomputable def f_c256 : ev_H := (cn1293 : e2_Q8)
def cn1294 : e2_Q5 := (cn302, cn1283)
def cn1295 : e2_Q6 := (cn1294, cn1285)
def cn1296 : e2_Q7 := (cn1282, cn1295)
def cn1297 : e2_Q5 := (cn366, cn1288)
def cn1298 : e2_Q5 := (cn1195, cn1236)
def cn1299 : e2_Q6 := (cn1297, cn1298)
def cn1300 : e2_Q7 := (cn1277, cn1299)
def cn1301 : e2_Q8 := (cn1296, cn1300)
noncomputable def q_c256_0 : ev_H := (cn1301 : e2_Q8)
noncomputable def rs_c256 : e2_Rs := [((11, 2147483647, 2147483668), q_c256_0)]
noncomputable def s_c256 : e2_Sm := (168, as_c256, E_c256, f_c256, rs_c256)
noncomputable def S_c256 : List e2_Sm := [s_c4, s_c241, s_c255]
noncomputable def I_c256 : List e2_In := [(102, 3, e2x_102), (160, 2, e2x_160)]
set_option maxRecDepth 1000000 in
theorem co_c256 : e2_okSB E_c256.length as_c256 f_c256 rs_c256 = true := by decide +kernel
def al_c256_0 : List ev_V := [(2, 0, 0), (2, 40, 0), (11, 2147483648, 2147483668), (1, 2, 4294967296), (9, 0, 0)]
def E_c256_0 : e2_E := [(2147483648, 2147583648, 0, 0), (2147483652, 2147483668, 1, 0), (2147483648, 2147483668, 2, 0)]
noncomputable def h_c256_0 : ev_H := (cn1301 : e2_Q8)
noncomputable def cl_c256_e : List (Nat × e2_S) := [(30, e2_cutL (al_c256_0.set 3 (11, 2147483648, 2147483668)) 2 (E_c256_0.take 2) h_c256_0)]
set_option maxRecDepth 1000000 in
theorem ck_c256_e : e2_run (e2_cal S_c256 I_c256 4000 2) (e2_fin rs_c256) e2x_168 (e2_bpL cl_c256_e) (e2_cutA cl_c256_e) 4000 (e2_seek e2x_168 0) (e2_al 5 as_c256) [] E_c256 f_c256 = true := by decide +kernel
noncomputable def cl_c256_0 : List (Nat × e2_S) := [(30, e2_cutL (al_c256_0.set 3 (13, 10, 2147483668)) 2 (E_c256_0.take 2) h_c256_0)]
set_option maxRecDepth 1000000 in
theorem ck_c256_0 : e2_runM (e2_cal S_c256 I_c256 4000 2) (e2_fin rs_c256) e2x_168 (e2_bpL cl_c256_0) (e2_cutA cl_c256_0) 4000 (e2_seek e2x_168 30) al_c256_0 [] E_c256_0 h_c256_0 = true := by decide +kernel
set_option maxRecDepth 1000000 in
theorem ci_c256_0 : e2_idl 2 (al_c256_0.set 3 (9, 0, 0)) = true := by decide +kernel
set_option maxRecDepth 1000000 in
theorem cj_c256_0 : e2_idh 2 8 h_c256_0 = true := by decide +kernel
theorem cs_c256 (hen : en_ok) (l : Launch) (hh : e2_hand_c l) : e2_smOk l 64 s_c256 := by
  refine e2_conG (H := 61) (n := 2) (C := evd_168) (S := S_c256) (I := I_c256) (fuel := 4000) hen ei_168 (e2_fa ((hh _ hm_c4).mono (by decide)) (e2_fa ((cs_c241 hen l).mono (by decide)) (e2_fa (cs_c255 hen l hh) e2_fz))) (e2_fa ein_102 (e2_fa ein_160 e2_fz)) (by decide) co_c256 fun M d _ hC hcall p e R s m args below meth c Q D cA A ads r0 ha hl0 => ?_
  have L_0 : e2_gdM M p l e R s m args below meth c Q D cA A ads r0 30 al_c256_0 [] E_c256_0 h_c256_0 := by
    refine e2_indL (u := 2) (j := 3) (lo := 2147483648) (hi := 2147483668) (b := 2) (dd := 0) hl0 (by decide) rfl rfl (Or.inr ⟨rfl, rfl⟩) rfl ci_c256_0 cj_c256_0 ?_
    intro r_0 k_0 hk_0 hp_0 hs_0 hn_0
    have hl_0 : r_0.length ≤ 3 := hs_0.len rfl
    have ha_0 := ha.ext hp_0
    exact e2_fromM hen ha_0 hcall (e2_cutA_ok (e2_fa (fun al st E h hc => hn_0 al st E h hc) e2_fz)) (hC []) (X := e2x_168) ex2_168 30 ck_c256_0
  have EN_0 := e2_entL (u := 2) (j := 3) (lo := 2147483648) (hi := 2147483668) hl0 rfl rfl rfl ci_c256_0 cj_c256_0 L_0
  exact e2_from hen ha hcall (e2_cutA_ok (e2_fa (fun al st E h hc => EN_0 al st E h hc) e2_fz)) (hC []) (X := e2x_168) ex2_168 0 ck_c256_e
/-! c257 X9_goAhead -/
def as_c257 : List ev_V := [(2, 0, 0), (11, 0, 4294967295)]
def E_c257 : e2_E := [(2147483648, 2147583648, 0, 0), (2147483652, 2147483668, 1, 0)]
def cn1302 : e2_Q6 := (cn1281, cn1053)
def cn1303 : e2_Q6 := (cn1284, cn1224)
def cn1304 : e2_Q7 := (cn1302, cn1303)
def cn1305 : e2_Q6 := (cn1271, cn1060)
def cn1306 : e2_Q7 := (cn1305, cn1291)
def cn1307 : e2_Q8 := (cn1304, cn1306)
noncomputable def f_c257 : ev_H := (cn1307 : e2_Q8)
noncomputable def q_c257_0 : ev_H := (cn1307 : e2_Q8)
noncomputable def rs_c257 : e2_Rs := [((11, 2147483648, 2147483649), q_c257_0)]
noncomputable def s_c257 : e2_Sm := (169, as_c257, E_c257, f_c257, rs_c257)
noncomputable def S_c257 : List e2_Sm := [s_c256]
noncomputable def I_c257 : List e2_In := [(99, 2, e2x_99)]
set_option maxRecDepth 1000000 in
theorem co_c257 : e2_okSB E_c257.length as_c257 f_c257 rs_c257 = true := by decide +kernel
def al_c257_0 : List ev_V := [(2, 0, 0), (11, 2147483648, 2147483708), (1, 2, 4294967296)]
def E_c257_0 : e2_E := [(2147483648, 2147583648, 0, 0), (2147483652, 2147483668, 1, 0), (2147483648, 2147483708, 2, 0)]
noncomputable def h_c257_0 : ev_H := (cn1307 : e2_Q8)
noncomputable def cl_c257_e : List (Nat × e2_S) := [(25, e2_cutL (al_c257_0.set 2 (11, 2147483648, 2147483708)) 2 (E_c257_0.take 2) h_c257_0)]
set_option maxRecDepth 1000000 in
theorem ck_c257_e : e2_run (e2_cal S_c257 I_c257 4000 1) (e2_fin rs_c257) e2x_169 (e2_bpL cl_c257_e) (e2_cutA cl_c257_e) 4000 (e2_seek e2x_169 0) (e2_al 3 as_c257) [] E_c257 f_c257 = true := by decide +kernel
noncomputable def cl_c257_0 : List (Nat × e2_S) := [(25, e2_cutL (al_c257_0.set 2 (13, 10, 2147483708)) 2 (E_c257_0.take 2) h_c257_0)]
set_option maxRecDepth 1000000 in
theorem ck_c257_0 : e2_runM (e2_cal S_c257 I_c257 4000 1) (e2_fin rs_c257) e2x_169 (e2_bpL cl_c257_0) (e2_cutA cl_c257_0) 4000 (e2_seek e2x_169 25) al_c257_0 [] E_c257_0 h_c257_0 = true := by decide +kernel
set_option maxRecDepth 1000000 in
theorem ci_c257_0 : e2_idl 2 (al_c257_0.set 2 (9, 0, 0)) = true := by decide +kernel
set_option maxRecDepth 1000000 in
theorem cj_c257_0 : e2_idh 2 8 h_c257_0 = true := by decide +kernel
theorem cs_c257 (hen : en_ok) (l : Launch) (hh : e2_hand_c l) : e2_smOk l 66 s_c257 := by
  refine e2_conG (H := 64) (n := 1) (C := evd_169) (S := S_c257) (I := I_c257) (fuel := 4000) hen ei_169 (e2_fa (cs_c256 hen l hh) e2_fz) (e2_fa ein_99 e2_fz) (by decide) co_c257 fun M d _ hC hcall p e R s m args below meth c Q D cA A ads r0 ha hl0 => ?_
  have L_0 : e2_gdM M p l e R s m args below meth c Q D cA A ads r0 25 al_c257_0 [] E_c257_0 h_c257_0 := by
    refine e2_indL (u := 2) (j := 2) (lo := 2147483648) (hi := 2147483708) (b := 2) (dd := 0) hl0 (by decide) rfl rfl (Or.inr ⟨rfl, rfl⟩) rfl ci_c257_0 cj_c257_0 ?_
    intro r_0 k_0 hk_0 hp_0 hs_0 hn_0
    have hl_0 : r_0.length ≤ 3 := hs_0.len rfl
    have ha_0 := ha.ext hp_0
    exact e2_fromM hen ha_0 hcall (e2_cutA_ok (e2_fa (fun al st E h hc => hn_0 al st E h hc) e2_fz)) (hC []) (X := e2x_169) ex2_169 25 ck_c257_0
  have EN_0 := e2_entL (u := 2) (j := 2) (lo := 2147483648) (hi := 2147483708) hl0 rfl rfl rfl ci_c257_0 cj_c257_0 L_0
  exact e2_from hen ha hcall (e2_cutA_ok (e2_fa (fun al st E h hc => EN_0 al st E h hc) e2_fz)) (hC []) (X := e2x_169) ex2_169 0 ck_c257_e
/-! c258 X9_will -/
def as_c258 : List ev_V := [(2, 0, 0), (11, 0, 4294967295), (11, 0, 4294967295)]
def E_c258 : e2_E := [(2147483648, 2147583648, 0, 0), (2147483652, 2147483668, 1, 0)]
noncomputable def f_c258 : ev_H := (cn1307 : e2_Q8)
noncomputable def q_c258_0 : ev_H := (cn1307 : e2_Q8)
noncomputable def rs_c258 : e2_Rs := [((11, 0, 4294967295), q_c258_0)]
noncomputable def s_c258 : e2_Sm := (139, as_c258, E_c258, f_c258, rs_c258)
noncomputable def S_c258 : List e2_Sm := [s_c257]
noncomputable def I_c258 : List e2_In := [(161, 2, e2x_161)]
set_option maxRecDepth 1000000 in
theorem ck_c258 : e2_run (e2_cal S_c258 I_c258 4000 1) (e2_fin rs_c258) e2x_139 (fun _ => false) (fun _ _ _ _ _ => false) 4000 (e2_seek e2x_139 0) (e2_al 3 as_c258) [] E_c258 f_c258 = true := by decide +kernel
set_option maxRecDepth 1000000 in
theorem co_c258 : e2_okSB E_c258.length as_c258 f_c258 rs_c258 = true := by decide +kernel
theorem cs_c258 (hen : en_ok) (l : Launch) (hh : e2_hand_c l) : e2_smOk l 68 s_c258 := e2_con0 (H := 66) (n := 1) (C := evd_139) (S := S_c258) (I := I_c258) (fuel := 4000) [] hen ei_139 (e2_fa (cs_c257 hen l hh) e2_fz) (e2_fa ein_161 e2_fz) (by decide) co_c258 ex2_139 ck_c258
/-! c259 X9_field -/
def as_c259 : List ev_V := [(2, 0, 0), (11, 0, 4294967295)]
def E_c259 : e2_E := [(2147483648, 2147583648, 0, 0), (2147483652, 2147483668, 1, 0)]
noncomputable def f_c259 : ev_H := (cn1307 : e2_Q8)
noncomputable def q_c259_0 : ev_H := (cn1307 : e2_Q8)
noncomputable def rs_c259 : e2_Rs := [((11, 0, 4294967295), q_c259_0)]
noncomputable def s_c259 : e2_Sm := (140, as_c259, E_c259, f_c259, rs_c259)
noncomputable def S_c259 : List e2_Sm := [s_c257]
noncomputable def I_c259 : List e2_In := []
set_option maxRecDepth 1000000 in
theorem ck_c259 : e2_run (e2_cal S_c259 I_c259 4000 0) (e2_fin rs_c259) e2x_140 (fun _ => false) (fun _ _ _ _ _ => false) 4000 (e2_seek e2x_140 0) (e2_al 2 as_c259) [] E_c259 f_c259 = true := by decide +kernel
set_option maxRecDepth 1000000 in
theorem co_c259 : e2_okSB E_c259.length as_c259 f_c259 rs_c259 = true := by decide +kernel
theorem cs_c259 (hen : en_ok) (l : Launch) (hh : e2_hand_c l) : e2_smOk l 67 s_c259 := e2_con0 (H := 66) (n := 0) (C := evd_140) (S := S_c259) (I := I_c259) (fuel := 4000) [] hen ei_140 (e2_fa (cs_c257 hen l hh) e2_fz) e2_fz (by decide) co_c259 ex2_140 ck_c259
/-! c260 X9_harm -/
def as_c260 : List ev_V := [(2, 0, 0)]
def E_c260 : e2_E := [(2147483648, 2147583648, 0, 0), (2147483652, 2147483668, 1, 0)]
noncomputable def f_c260 : ev_H := (cn1214 : e2_Q8)
def cn1308 : e2_Q7 := (cn1212, cn318)
def cn1309 : e2_Q8 := (cn1308, cn1207)
noncomputable def q_c260_0 : ev_H := (cn1309 : e2_Q8)
noncomputable def rs_c260 : e2_Rs := [((11, 2147483648, 2147483649), q_c260_0)]
noncomputable def s_c260 : e2_Sm := (141, as_c260, E_c260, f_c260, rs_c260)
noncomputable def S_c260 : List e2_Sm := [s_c237, s_c246]
noncomputable def I_c260 : List e2_In := []
set_option maxRecDepth 1000000 in
theorem ck_c260 : e2_run (e2_cal S_c260 I_c260 4000 0) (e2_fin rs_c260) e2x_141 (fun _ => false) (fun _ _ _ _ _ => false) 4000 (e2_seek e2x_141 0) (e2_al 1 as_c260) [] E_c260 f_c260 = true := by decide +kernel
set_option maxRecDepth 1000000 in
theorem co_c260 : e2_okSB E_c260.length as_c260 f_c260 rs_c260 = true := by decide +kernel
theorem cs_c260 (hen : en_ok) (l : Launch) (hh : e2_hand_c l) : e2_smOk l 63 s_c260 := e2_con0 (H := 62) (n := 0) (C := evd_141) (S := S_c260) (I := I_c260) (fuel := 4000) [] hen ei_141 (e2_fa ((cs_c237 hen l).mono (by decide)) (e2_fa (cs_c246 hen l hh) e2_fz)) e2_fz (by decide) co_c260 ex2_141 ck_c260
/-! c261 X9_turn -/
def as_c261 : List ev_V := [(2, 0, 0), (11, 0, 4294967295), (11, 0, 4294967295)]
def E_c261 : e2_E := [(2147483648, 2147583648, 0, 0), (2147483652, 2147483668, 1, 0)]
def cn1310 : e2_Q5 := (cn1137, cn852)
def cn1311 : e2_Q4 := (cn384, cn1252)
def cn1312 : e2_Q5 := (cn793, cn1311)
def cn1313 : e2_Q6 := (cn1310, cn1312)
def cn1314 : e2_Q7 := (cn1313, cn403)
def cn1315 : e2_Q5 := (cn802, cn412)
def cn1316 : e2_Q3 := (cn493, cn879)
def cn1317 : e2_Q4 := (cn179, cn1316)
def cn1318 : e2_Q5 := (cn1059, cn1317)
def cn1319 : e2_Q6 := (cn1315, cn1318)
def cn1320 : e2_Q4 := (cn416, cn827)
def cn1321 : e2_Q5 := (cn808, cn1320)
def cn1322 : e2_Q6 := (cn1321, cn813)
def cn1323 : e2_Q7 := (cn1319, cn1322)
def cn1324 : e2_Q8 := (cn1314, cn1323)
noncomputable def f_c261 : ev_H := (cn1324 : e2_Q8)
noncomputable def q_c261_0 : ev_H := (cn1324 : e2_Q8)
noncomputable def rs_c261 : e2_Rs := [((11, 2147483647, 2147483651), q_c261_0)]
noncomputable def s_c261 : e2_Sm := (142, as_c261, E_c261, f_c261, rs_c261)
noncomputable def S_c261 : List e2_Sm := [s_c189, s_c205]
noncomputable def I_c261 : List e2_In := [(63, 1, e2x_63), (69, 3, e2x_69), (161, 2, e2x_161)]
set_option maxRecDepth 1000000 in
theorem ck_c261 : e2_run (e2_cal S_c261 I_c261 4000 1) (e2_fin rs_c261) e2x_142 (fun _ => false) (fun _ _ _ _ _ => false) 4000 (e2_seek e2x_142 0) (e2_al 3 as_c261) [] E_c261 f_c261 = true := by decide +kernel
set_option maxRecDepth 1000000 in
theorem co_c261 : e2_okSB E_c261.length as_c261 f_c261 rs_c261 = true := by decide +kernel
theorem cs_c261 (hen : en_ok) (l : Launch) (hh : e2_hand_c l) : e2_smOk l 71 s_c261 := e2_con0 (H := 69) (n := 1) (C := evd_142) (S := S_c261) (I := I_c261) (fuel := 4000) [] hen ei_142 (e2_fa ((cs_c189 hen l).mono (by decide)) (e2_fa (cs_c205 hen l hh) e2_fz)) (e2_fa ein_63 (e2_fa ein_69 (e2_fa ein_161 e2_fz))) (by decide) co_c261 ex2_142 ck_c261
/-! c262 X9_plain -/
def as_c262 : List ev_V := [(2, 0, 0)]
def E_c262 : e2_E := [(2147483648, 2147583648, 0, 0), (2147483652, 2147483668, 1, 0)]
noncomputable def f_c262 : ev_H := (cn1324 : e2_Q8)
def cn1325 : e2_Q5 := (cn818, cn1311)
def cn1326 : e2_Q6 := (cn1310, cn1325)
def cn1327 : e2_Q7 := (cn1326, cn403)
def cn1328 : e2_Q3 := (cn429, cn465)
def cn1329 : e2_Q4 := (cn1328, cn336)
def cn1330 : e2_Q5 := (cn1329, cn1317)
def cn1331 : e2_Q6 := (cn428, cn1330)
def cn1332 : e2_Q4 := (cn416, cn835)
def cn1333 : e2_Q5 := (cn808, cn1332)
def cn1334 : e2_Q6 := (cn1333, cn874)
def cn1335 : e2_Q7 := (cn1331, cn1334)
def cn1336 : e2_Q8 := (cn1327, cn1335)
noncomputable def q_c262_0 : ev_H := (cn1336 : e2_Q8)
noncomputable def rs_c262 : e2_Rs := [((11, 2147483647, 2147483651), q_c262_0)]
noncomputable def s_c262 : e2_Sm := (143, as_c262, E_c262, f_c262, rs_c262)
noncomputable def S_c262 : List e2_Sm := [s_c189, s_c196, s_c206]
noncomputable def I_c262 : List e2_In := [(63, 1, e2x_63)]
set_option maxRecDepth 1000000 in
theorem ck_c262 : e2_run (e2_cal S_c262 I_c262 4000 1) (e2_fin rs_c262) e2x_143 (fun _ => false) (fun _ _ _ _ _ => false) 4000 (e2_seek e2x_143 0) (e2_al 1 as_c262) [] E_c262 f_c262 = true := by decide +kernel
set_option maxRecDepth 1000000 in
theorem co_c262 : e2_okSB E_c262.length as_c262 f_c262 rs_c262 = true := by decide +kernel
theorem cs_c262 (hen : en_ok) (l : Launch) (hh : e2_hand_c l) : e2_smOk l 71 s_c262 := e2_con0 (H := 69) (n := 1) (C := evd_143) (S := S_c262) (I := I_c262) (fuel := 4000) [] hen ei_143 (e2_fa ((cs_c189 hen l).mono (by decide)) (e2_fa ((cs_c196 hen l hh).mono (by decide)) (e2_fa (cs_c206 hen l hh) e2_fz))) (e2_fa ein_63 e2_fz) (by decide) co_c262 ex2_143 ck_c262
/-! c263 X9_orders -/
def as_c263 : List ev_V := [(2, 0, 0), (11, 0, 4294967295)]
def E_c263 : e2_E := [(2147483648, 2147583648, 0, 0), (2147483652, 2147483668, 1, 0)]
def cn1337 : e2_Q7 := (cn1313, cn939)
def cn1338 : e2_Q6 := (cn1315, cn1060)
def cn1339 : e2_Q5 := (cn812, cn928)
def cn1340 : e2_Q6 := (cn1321, cn1339)
def cn1341 : e2_Q7 := (cn1338, cn1340)
def cn1342 : e2_Q8 := (cn1337, cn1341)
noncomputable def f_c263 : ev_H := (cn1342 : e2_Q8)
noncomputable def q_c263_0 : ev_H := (cn1342 : e2_Q8)
noncomputable def rs_c263 : e2_Rs := [((11, 0, 4294967295), q_c263_0)]
noncomputable def s_c263 : e2_Sm := (144, as_c263, E_c263, f_c263, rs_c263)
noncomputable def S_c263 : List e2_Sm := [s_c189, s_c211]
noncomputable def I_c263 : List e2_In := [(63, 1, e2x_63), (164, 1, e2x_164), (165, 2, e2x_165), (291, 1, e2x_291)]
set_option maxRecDepth 1000000 in
theorem ck_c263 : e2_run (e2_cal S_c263 I_c263 4000 2) (e2_fin rs_c263) e2x_144 (fun _ => false) (fun _ _ _ _ _ => false) 4000 (e2_seek e2x_144 0) (e2_al 2 as_c263) [] E_c263 f_c263 = true := by decide +kernel
set_option maxRecDepth 1000000 in
theorem co_c263 : e2_okSB E_c263.length as_c263 f_c263 rs_c263 = true := by decide +kernel
theorem cs_c263 (hen : en_ok) (l : Launch) (hh : e2_hand_c l) : e2_smOk l 65 s_c263 := e2_con0 (H := 62) (n := 2) (C := evd_144) (S := S_c263) (I := I_c263) (fuel := 4000) [] hen ei_144 (e2_fa ((cs_c189 hen l).mono (by decide)) (e2_fa (cs_c211 hen l hh) e2_fz)) (e2_fa ein_63 (e2_fa ein_164 (e2_fa ein_165 (e2_fa ein_291 e2_fz)))) (by decide) co_c263 ex2_144 ck_c263
/-! c264 X9_write -/
def as_c264 : List ev_V := [(2, 0, 0), (11, 0, 4294967295), (11, 0, 4294967295), (11, 0, 4294967295)]
def E_c264 : e2_E := [(2147483648, 2147583648, 0, 0), (2147483652, 2147483668, 1, 0)]
def cn1343 : e2_Q2 := (cn1134, cn1009)
def cn1344 : e2_Q3 := (cn1343, cn5)
def cn1345 : e2_Q4 := (cn1344, cn13)
def cn1346 : e2_Q5 := (cn1345, cn378)
def cn1347 : e2_Q6 := (cn1346, cn1312)
def cn1348 : e2_Q7 := (cn1347, cn403)
def cn1349 : e2_Q7 := (cn1338, cn1322)
def cn1350 : e2_Q8 := (cn1348, cn1349)
noncomputable def f_c264 : ev_H := (cn1350 : e2_Q8)
noncomputable def q_c264_0 : ev_H := (cn1350 : e2_Q8)
noncomputable def rs_c264 : e2_Rs := [((11, 2147483647, 2147483837), q_c264_0)]
noncomputable def s_c264 : e2_Sm := (145, as_c264, E_c264, f_c264, rs_c264)
noncomputable def S_c264 : List e2_Sm := [s_c189, s_c227]
noncomputable def I_c264 : List e2_In := [(63, 1, e2x_63), (162, 2, e2x_162)]
set_option maxRecDepth 1000000 in
theorem ck_c264 : e2_run (e2_cal S_c264 I_c264 4000 1) (e2_fin rs_c264) e2x_145 (fun _ => false) (fun _ _ _ _ _ => false) 4000 (e2_seek e2x_145 0) (e2_al 6 as_c264) [] E_c264 f_c264 = true := by decide +kernel
set_option maxRecDepth 1000000 in
theorem co_c264 : e2_okSB E_c264.length as_c264 f_c264 rs_c264 = true := by decide +kernel
theorem cs_c264 (hen : en_ok) (l : Launch) (hh : e2_hand_c l) : e2_smOk l 72 s_c264 := e2_con0 (H := 70) (n := 1) (C := evd_145) (S := S_c264) (I := I_c264) (fuel := 4000) [] hen ei_145 (e2_fa ((cs_c189 hen l).mono (by decide)) (e2_fa (cs_c227 hen l hh) e2_fz)) (e2_fa ein_63 (e2_fa ein_162 e2_fz)) (by decide) co_c264 ex2_145 ck_c264
/-! c265 X9_watch -/
def as_c265 : List ev_V := [(2, 0, 0)]
def E_c265 : e2_E := [(2147483648, 2147583648, 0, 0), (2147483652, 2147483668, 1, 0)]
def cn1351 : e2_Q4 := (cn384, cn482)
def cn1352 : e2_Q5 := (cn793, cn1351)
def cn1353 : e2_Q6 := (cn1310, cn1352)
def cn1354 : e2_Q7 := (cn1353, cn403)
def cn1355 : e2_Q8 := (cn1354, cn1349)
noncomputable def f_c265 : ev_H := (cn1355 : e2_Q8)
def cn1356 : e2_Q5 := (cn818, cn1351)
def cn1357 : e2_Q6 := (cn1310, cn1356)
def cn1358 : e2_Q7 := (cn1357, cn403)
def cn1359 : e2_Q6 := (cn445, cn1060)
def cn1360 : e2_Q6 := (cn1333, cn813)
def cn1361 : e2_Q7 := (cn1359, cn1360)
def cn1362 : e2_Q8 := (cn1358, cn1361)
noncomputable def q_c265_0 : ev_H := (cn1362 : e2_Q8)
noncomputable def rs_c265 : e2_Rs := [((11, 0, 4294967295), q_c265_0)]
noncomputable def s_c265 : e2_Sm := (146, as_c265, E_c265, f_c265, rs_c265)
noncomputable def S_c265 : List e2_Sm := [s_c189, s_c228]
noncomputable def I_c265 : List e2_In := []
set_option maxRecDepth 1000000 in
theorem ck_c265 : e2_run (e2_cal S_c265 I_c265 4000 0) (e2_fin rs_c265) e2x_146 (fun _ => false) (fun _ _ _ _ _ => false) 4000 (e2_seek e2x_146 0) (e2_al 1 as_c265) [] E_c265 f_c265 = true := by decide +kernel
set_option maxRecDepth 1000000 in
theorem co_c265 : e2_okSB E_c265.length as_c265 f_c265 rs_c265 = true := by decide +kernel
theorem cs_c265 (hen : en_ok) (l : Launch) (hh : e2_hand_c l) : e2_smOk l 64 s_c265 := e2_con0 (H := 63) (n := 0) (C := evd_146) (S := S_c265) (I := I_c265) (fuel := 4000) [] hen ei_146 (e2_fa ((cs_c189 hen l).mono (by decide)) (e2_fa (cs_c228 hen l hh) e2_fz)) e2_fz (by decide) co_c265 ex2_146 ck_c265
/-! c266 X9_cows -/
def as_c266 : List ev_V := [(2, 0, 0), (11, 0, 4294967295), (11, 0, 4294967295)]
def E_c266 : e2_E := [(2147483648, 2147583648, 0, 0), (2147483652, 2147483668, 1, 0)]
noncomputable def f_c266 : ev_H := (cn1355 : e2_Q8)
noncomputable def q_c266_0 : ev_H := (cn1355 : e2_Q8)
noncomputable def rs_c266 : e2_Rs := [((11, 0, 4294967295), q_c266_0)]
noncomputable def s_c266 : e2_Sm := (147, as_c266, E_c266, f_c266, rs_c266)
noncomputable def S_c266 : List e2_Sm := [s_c189, s_c229]
noncomputable def I_c266 : List e2_In := [(161, 2, e2x_161), (164, 1, e2x_164), (291, 1, e2x_291)]
set_option maxRecDepth 1000000 in
theorem ck_c266 : e2_run (e2_cal S_c266 I_c266 4000 1) (e2_fin rs_c266) e2x_147 (fun _ => false) (fun _ _ _ _ _ => false) 4000 (e2_seek e2x_147 0) (e2_al 3 as_c266) [] E_c266 f_c266 = true := by decide +kernel
set_option maxRecDepth 1000000 in
theorem co_c266 : e2_okSB E_c266.length as_c266 f_c266 rs_c266 = true := by decide +kernel
theorem cs_c266 (hen : en_ok) (l : Launch) (hh : e2_hand_c l) : e2_smOk l 65 s_c266 := e2_con0 (H := 63) (n := 1) (C := evd_147) (S := S_c266) (I := I_c266) (fuel := 4000) [] hen ei_147 (e2_fa ((cs_c189 hen l).mono (by decide)) (e2_fa (cs_c229 hen l hh) e2_fz)) (e2_fa ein_161 (e2_fa ein_164 (e2_fa ein_291 e2_fz))) (by decide) co_c266 ex2_147 ck_c266
/-! c267 X9_duel -/
def as_c267 : List ev_V := [(2, 0, 0), (11, 0, 4294967295), (11, 0, 4294967295), (11, 0, 4294967295), (11, 0, 4294967295)]
def E_c267 : e2_E := [(2147483648, 2147583648, 0, 0), (2147483652, 2147483668, 1, 0)]
noncomputable def f_c267 : ev_H := (cn1355 : e2_Q8)
noncomputable def q_c267_0 : ev_H := (cn1355 : e2_Q8)
noncomputable def rs_c267 : e2_Rs := [((11, 0, 4294967295), q_c267_0)]
noncomputable def s_c267 : e2_Sm := (148, as_c267, E_c267, f_c267, rs_c267)
noncomputable def S_c267 : List e2_Sm := [s_c189, s_c232]
noncomputable def I_c267 : List e2_In := [(161, 2, e2x_161), (164, 1, e2x_164), (165, 2, e2x_165)]
set_option maxRecDepth 1000000 in
theorem ck_c267 : e2_run (e2_cal S_c267 I_c267 4000 2) (e2_fin rs_c267) e2x_148 (fun _ => false) (fun _ _ _ _ _ => false) 4000 (e2_seek e2x_148 0) (e2_al 6 as_c267) [] E_c267 f_c267 = true := by decide +kernel
set_option maxRecDepth 1000000 in
theorem co_c267 : e2_okSB E_c267.length as_c267 f_c267 rs_c267 = true := by decide +kernel
theorem cs_c267 (hen : en_ok) (l : Launch) (hh : e2_hand_c l) : e2_smOk l 68 s_c267 := e2_con0 (H := 65) (n := 2) (C := evd_148) (S := S_c267) (I := I_c267) (fuel := 4000) [] hen ei_148 (e2_fa ((cs_c189 hen l).mono (by decide)) (e2_fa (cs_c232 hen l hh) e2_fz)) (e2_fa ein_161 (e2_fa ein_164 (e2_fa ein_165 e2_fz))) (by decide) co_c267 ex2_148 ck_c267
/-! c268 X9_heard -/
def as_c268 : List ev_V := [(2, 0, 0), (11, 0, 4294967295), (11, 0, 4294967295), (11, 0, 4294967295), (11, 2147483648, 2147483649)]
def E_c268 : e2_E := [(2147483648, 2147583648, 0, 0), (2147483652, 2147483668, 1, 0)]
def cn1363 : e2_Q4 := (cn1136, cn546)
def cn1364 : e2_Q5 := (cn1363, cn29)
def cn1365 : e2_Q6 := (cn1364, cn61)
def cn1366 : e2_Q7 := (cn1365, cn554)
def cn1367 : e2_Q8 := (cn1366, cn572)
noncomputable def f_c268 : ev_H := (cn1367 : e2_Q8)
noncomputable def q_c268_0 : ev_H := (cn1367 : e2_Q8)
noncomputable def rs_c268 : e2_Rs := [((11, 2147483647, 2147483677), q_c268_0)]
noncomputable def s_c268 : e2_Sm := (150, as_c268, E_c268, f_c268, rs_c268)
noncomputable def S_c268 : List e2_Sm := [s_c14]
noncomputable def I_c268 : List e2_In := []
set_option maxRecDepth 1000000 in
theorem ck_c268 : e2_run (e2_cal S_c268 I_c268 4000 0) (e2_fin rs_c268) e2x_150 (fun _ => false) (fun _ _ _ _ _ => false) 4000 (e2_seek e2x_150 0) (e2_al 5 as_c268) [] E_c268 f_c268 = true := by decide +kernel
set_option maxRecDepth 1000000 in
theorem co_c268 : e2_okSB E_c268.length as_c268 f_c268 rs_c268 = true := by decide +kernel
theorem cs_c268 (hen : en_ok) (l : Launch) : e2_smOk l 3 s_c268 := e2_con0 (H := 2) (n := 0) (C := evd_150) (S := S_c268) (I := I_c268) (fuel := 4000) [] hen ei_150 (e2_fa (cs_c14 hen l) e2_fz) e2_fz (by decide) co_c268 ex2_150 ck_c268
/-! c269 X9_fit -/
def as_c269 : List ev_V := [(2, 0, 0), (11, 0, 4294967295)]
def E_c269 : e2_E := [(2147483648, 2147583648, 0, 0), (2147483652, 2147483668, 1, 0)]
def cn1368 : e2_Q7 := (cn1365, cn584)
def cn1369 : e2_Q8 := (cn1368, cn572)
noncomputable def f_c269 : ev_H := (cn1369 : e2_Q8)
noncomputable def q_c269_0 : ev_H := (cn1369 : e2_Q8)
noncomputable def rs_c269 : e2_Rs := [((11, 2147483648, 2147549184), q_c269_0)]
noncomputable def s_c269 : e2_Sm := (153, as_c269, E_c269, f_c269, rs_c269)
noncomputable def S_c269 : List e2_Sm := [s_c33]
noncomputable def I_c269 : List e2_In := []
set_option maxRecDepth 1000000 in
theorem ck_c269 : e2_run (e2_cal S_c269 I_c269 4000 0) (e2_fin rs_c269) e2x_153 (fun _ => false) (fun _ _ _ _ _ => false) 4000 (e2_seek e2x_153 0) (e2_al 2 as_c269) [] E_c269 f_c269 = true := by decide +kernel
set_option maxRecDepth 1000000 in
theorem co_c269 : e2_okSB E_c269.length as_c269 f_c269 rs_c269 = true := by decide +kernel
theorem cs_c269 (hen : en_ok) (l : Launch) : e2_smOk l 20 s_c269 := e2_con0 (H := 19) (n := 0) (C := evd_153) (S := S_c269) (I := I_c269) (fuel := 4000) [] hen ei_153 (e2_fa (cs_c33 hen l) e2_fz) e2_fz (by decide) co_c269 ex2_153 ck_c269
/-! c270 X9_sure -/
def as_c270 : List ev_V := [(2, 0, 0), (11, 0, 4294967295), (11, 0, 4294967295), (11, 0, 4294967295)]
def E_c270 : e2_E := [(2147483648, 2147583648, 0, 0), (2147483652, 2147483668, 1, 0)]
noncomputable def f_c270 : ev_H := (cn1369 : e2_Q8)
noncomputable def q_c270_0 : ev_H := (cn1369 : e2_Q8)
noncomputable def rs_c270 : e2_Rs := [((11, 2147483646, 2147483649), q_c270_0)]
noncomputable def s_c270 : e2_Sm := (154, as_c270, E_c270, f_c270, rs_c270)
noncomputable def S_c270 : List e2_Sm := [s_c34]
noncomputable def I_c270 : List e2_In := []
set_option maxRecDepth 1000000 in
theorem ck_c270 : e2_run (e2_cal S_c270 I_c270 4000 0) (e2_fin rs_c270) e2x_154 (fun _ => false) (fun _ _ _ _ _ => false) 4000 (e2_seek e2x_154 0) (e2_al 4 as_c270) [] E_c270 f_c270 = true := by decide +kernel
set_option maxRecDepth 1000000 in
theorem co_c270 : e2_okSB E_c270.length as_c270 f_c270 rs_c270 = true := by decide +kernel
theorem cs_c270 (hen : en_ok) (l : Launch) : e2_smOk l 22 s_c270 := e2_con0 (H := 21) (n := 0) (C := evd_154) (S := S_c270) (I := I_c270) (fuel := 4000) [] hen ei_154 (e2_fa (cs_c34 hen l) e2_fz) e2_fz (by decide) co_c270 ex2_154 ck_c270
/-! c271 X9_ask -/
def as_c271 : List ev_V := [(2, 0, 0), (11, 0, 4294967295), (11, 0, 4294967295)]
def E_c271 : e2_E := [(2147483648, 2147583648, 0, 0), (2147483652, 2147483668, 1, 0)]
noncomputable def f_c271 : ev_H := (cn1369 : e2_Q8)
noncomputable def q_c271_0 : ev_H := (cn1369 : e2_Q8)
noncomputable def rs_c271 : e2_Rs := [((11, 2147483647, 2147549184), q_c271_0)]
noncomputable def s_c271 : e2_Sm := (155, as_c271, E_c271, f_c271, rs_c271)
noncomputable def S_c271 : List e2_Sm := [s_c35]
noncomputable def I_c271 : List e2_In := []
set_option maxRecDepth 1000000 in
theorem ck_c271 : e2_run (e2_cal S_c271 I_c271 4000 0) (e2_fin rs_c271) e2x_155 (fun _ => false) (fun _ _ _ _ _ => false) 4000 (e2_seek e2x_155 0) (e2_al 3 as_c271) [] E_c271 f_c271 = true := by decide +kernel
set_option maxRecDepth 1000000 in
theorem co_c271 : e2_okSB E_c271.length as_c271 f_c271 rs_c271 = true := by decide +kernel
theorem cs_c271 (hen : en_ok) (l : Launch) : e2_smOk l 22 s_c271 := e2_con0 (H := 21) (n := 0) (C := evd_155) (S := S_c271) (I := I_c271) (fuel := 4000) [] hen ei_155 (e2_fa (cs_c35 hen l) e2_fz) e2_fz (by decide) co_c271 ex2_155 ck_c271
/-! c272 X9_about -/
def as_c272 : List ev_V := [(2, 0, 0), (11, 0, 4294967295)]
def E_c272 : e2_E := [(2147483648, 2147583648, 0, 0), (2147483652, 2147483668, 1, 0)]
def cn1370 : e2_Q4 := (cn1241, cn59)
def cn1371 : e2_Q5 := (cn452, cn1370)
def cn1372 : e2_Q6 := (cn1138, cn1371)
def cn1373 : e2_Q7 := (cn1372, cn268)
def cn1374 : e2_Q4 := (cn1141, cn322)
def cn1375 : e2_Q5 := (cn1374, cn156)
def cn1376 : e2_Q6 := (cn1375, cn564)
def cn1377 : e2_Q4 := (cn211, cn1169)
def cn1378 : e2_Q5 := (cn273, cn1377)
def cn1379 : e2_Q6 := (cn1378, cn251)
def cn1380 : e2_Q7 := (cn1376, cn1379)
def cn1381 : e2_Q8 := (cn1373, cn1380)
noncomputable def f_c272 : ev_H := (cn1381 : e2_Q8)
noncomputable def q_c272_0 : ev_H := (cn1381 : e2_Q8)
noncomputable def rs_c272 : e2_Rs := [((11, 0, 4294967295), q_c272_0)]
noncomputable def s_c272 : e2_Sm := (158, as_c272, E_c272, f_c272, rs_c272)
noncomputable def S_c272 : List e2_Sm := []
noncomputable def I_c272 : List e2_In := []
set_option maxRecDepth 1000000 in
theorem ck_c272 : e2_run (e2_cal S_c272 I_c272 4000 0) (e2_fin rs_c272) e2x_158 (fun _ => false) (fun _ _ _ _ _ => false) 4000 (e2_seek e2x_158 0) (e2_al 2 as_c272) [] E_c272 f_c272 = true := by decide +kernel
set_option maxRecDepth 1000000 in
theorem co_c272 : e2_okSB E_c272.length as_c272 f_c272 rs_c272 = true := by decide +kernel
theorem cs_c272 (hen : en_ok) (l : Launch) : e2_smOk l 1 s_c272 := e2_con0 (H := 0) (n := 0) (C := evd_158) (S := S_c272) (I := I_c272) (fuel := 4000) [] hen ei_158 e2_fz e2_fz (by decide) co_c272 ex2_158 ck_c272
