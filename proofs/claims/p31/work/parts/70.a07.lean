/-! CONTRACTS a, printed by a program -/
/-! a239 X9_readings -/
def as_a239 : List ev_V := [(2, 0, 0)]
def E_a239 : e2_E := [(2147483648, 2147583648, 0, 0), (2147483652, 2147483668, 1, 0)]
noncomputable def f_a239 : ev_H := (an1016 : e2_Q8)
noncomputable def q_a239_0 : ev_H := (an1025 : e2_Q8)
noncomputable def rs_a239 : e2_Rs := [((11, 0, 4294967295), q_a239_0)]
noncomputable def s_a239 : e2_Sm := (135, as_a239, E_a239, f_a239, rs_a239)
noncomputable def S_a239 : List e2_Sm := [s_a233]
noncomputable def I_a239 : List e2_In := []
set_option maxRecDepth 1000000 in
theorem ck_a239 : e2_run (e2_cal S_a239 I_a239 4000 0) (e2_fin rs_a239) e2x_135 (fun _ => false) (fun _ _ _ _ _ => false) 4000 (e2_seek e2x_135 0) (e2_al 1 as_a239) [] E_a239 f_a239 = true := by decide +kernel
set_option maxRecDepth 1000000 in
theorem co_a239 : e2_okSB E_a239.length as_a239 f_a239 rs_a239 = true := by decide +kernel
theorem cs_a239 (hen : en_ok) (l : Launch) (hh : e2_hand_a l) : e2_smOk l 62 s_a239 := e2_con0 (H := 61) (n := 0) (C := evd_135) (S := S_a239) (I := I_a239) (fuel := 4000) [] hen ei_135 (e2_fa (cs_a233 hen l hh) e2_fz) e2_fz (by decide) co_a239 ex2_135 ck_a239
/-! a240 X9_taken -/
def as_a240 : List ev_V := [(2, 0, 0)]
def E_a240 : e2_E := [(2147483648, 2147583648, 0, 0), (2147483652, 2147483668, 1, 0)]
def an1075 : e2_Q4 := (an438, an742)
def an1076 : e2_Q5 := (an889, an1075)
def an1077 : e2_Q6 := (an1005, an1076)
def an1078 : e2_Q7 := (an1077, an1008)
def an1079 : e2_Q5 := (an323, an657)
def an1080 : e2_Q6 := (an1079, an1013)
def an1081 : e2_Q7 := (an1011, an1080)
def an1082 : e2_Q8 := (an1078, an1081)
noncomputable def f_a240 : ev_H := (an1082 : e2_Q8)
def an1083 : e2_Q7 := (an1077, an296)
def an1084 : e2_Q5 := (an347, an657)
def an1085 : e2_Q6 := (an1084, an1022)
def an1086 : e2_Q7 := (an1020, an1085)
def an1087 : e2_Q8 := (an1083, an1086)
noncomputable def q_a240_0 : ev_H := (an1087 : e2_Q8)
noncomputable def rs_a240 : e2_Rs := [((11, 2147483647, 2147483668), q_a240_0)]
noncomputable def s_a240 : e2_Sm := (136, as_a240, E_a240, f_a240, rs_a240)
noncomputable def S_a240 : List e2_Sm := [s_a234]
noncomputable def I_a240 : List e2_In := [(63, 1, e2x_63), (64, 2, e2x_64)]
set_option maxRecDepth 1000000 in
theorem co_a240 : e2_okSB E_a240.length as_a240 f_a240 rs_a240 = true := by decide +kernel
def al_a240_0 : List ev_V := [(2, 0, 0), (1, 2, 4294967296)]
def E_a240_0 : e2_E := [(2147483648, 2147583648, 0, 0), (2147483652, 2147483668, 1, 0), (2147483648, 2147483668, 2, 0)]
noncomputable def h_a240_0 : ev_H := (an1087 : e2_Q8)
noncomputable def cl_a240_e : List (Nat × e2_S) := [(18, e2_cutL (al_a240_0.set 1 (11, 2147483648, 2147483668)) 2 (E_a240_0.take 2) h_a240_0)]
set_option maxRecDepth 1000000 in
theorem ck_a240_e : e2_run (e2_cal S_a240 I_a240 4000 1) (e2_fin rs_a240) e2x_136 (e2_bpL cl_a240_e) (e2_cutA cl_a240_e) 4000 (e2_seek e2x_136 0) (e2_al 2 as_a240) [] E_a240 f_a240 = true := by decide +kernel
noncomputable def cl_a240_0 : List (Nat × e2_S) := [(18, e2_cutL (al_a240_0.set 1 (13, 10, 2147483668)) 2 (E_a240_0.take 2) h_a240_0)]
set_option maxRecDepth 1000000 in
theorem ck_a240_0 : e2_runM (e2_cal S_a240 I_a240 4000 1) (e2_fin rs_a240) e2x_136 (e2_bpL cl_a240_0) (e2_cutA cl_a240_0) 4000 (e2_seek e2x_136 18) al_a240_0 [] E_a240_0 h_a240_0 = true := by decide +kernel
set_option maxRecDepth 1000000 in
theorem ci_a240_0 : e2_idl 2 (al_a240_0.set 1 (9, 0, 0)) = true := by decide +kernel
set_option maxRecDepth 1000000 in
theorem cj_a240_0 : e2_idh 2 8 h_a240_0 = true := by decide +kernel
theorem cs_a240 (hen : en_ok) (l : Launch) (hh : e2_hand_a l) : e2_smOk l 64 s_a240 := by
  refine e2_conG (H := 62) (n := 1) (C := evd_136) (S := S_a240) (I := I_a240) (fuel := 4000) hen ei_136 (e2_fa (cs_a234 hen l hh) e2_fz) (e2_fa ein_63 (e2_fa ein_64 e2_fz)) (by decide) co_a240 fun M d _ hC hcall p e R s m args below meth c Q D cA A ads r0 ha hl0 => ?_
  have L_0 : e2_gdM M p l e R s m args below meth c Q D cA A ads r0 18 al_a240_0 [] E_a240_0 h_a240_0 := by
    refine e2_indL (u := 2) (j := 1) (lo := 2147483648) (hi := 2147483668) (b := 2) (dd := 0) hl0 (by decide) rfl rfl (Or.inr ⟨rfl, rfl⟩) rfl ci_a240_0 cj_a240_0 ?_
    intro r_0 k_0 hk_0 hp_0 hs_0 hn_0
    have hl_0 : r_0.length ≤ 3 := hs_0.len rfl
    have ha_0 := ha.ext hp_0
    exact e2_fromM hen ha_0 hcall (e2_cutA_ok (e2_fa (fun al st E h hc => hn_0 al st E h hc) e2_fz)) (hC []) (X := e2x_136) ex2_136 18 ck_a240_0
  have EN_0 := e2_entL (u := 2) (j := 1) (lo := 2147483648) (hi := 2147483668) hl0 rfl rfl rfl ci_a240_0 cj_a240_0 L_0
  exact e2_from hen ha hcall (e2_cutA_ok (e2_fa (fun al st E h hc => EN_0 al st E h hc) e2_fz)) (hC []) (X := e2x_136) ex2_136 0 ck_a240_e
/-! a241 X9_weight -/
def as_a241 : List ev_V := [(2, 0, 0)]
def E_a241 : e2_E := [(2147483648, 2147583648, 0, 0), (2147483652, 2147483668, 1, 0)]
noncomputable def f_a241 : ev_H := (an1016 : e2_Q8)
noncomputable def q_a241_0 : ev_H := (an1025 : e2_Q8)
noncomputable def rs_a241 : e2_Rs := [((11, 0, 4294967295), q_a241_0)]
noncomputable def s_a241 : e2_Sm := (137, as_a241, E_a241, f_a241, rs_a241)
noncomputable def S_a241 : List e2_Sm := [s_a233]
noncomputable def I_a241 : List e2_In := [(89, 1, e2x_89), (90, 5, e2x_90)]
set_option maxRecDepth 1000000 in
theorem ck_a241 : e2_run (e2_cal S_a241 I_a241 4000 2) (e2_fin rs_a241) e2x_137 (fun _ => false) (fun _ _ _ _ _ => false) 4000 (e2_seek e2x_137 0) (e2_al 1 as_a241) [] E_a241 f_a241 = true := by decide +kernel
set_option maxRecDepth 1000000 in
theorem co_a241 : e2_okSB E_a241.length as_a241 f_a241 rs_a241 = true := by decide +kernel
theorem cs_a241 (hen : en_ok) (l : Launch) (hh : e2_hand_a l) : e2_smOk l 64 s_a241 := e2_con0 (H := 61) (n := 2) (C := evd_137) (S := S_a241) (I := I_a241) (fuel := 4000) [] hen ei_137 (e2_fa (cs_a233 hen l hh) e2_fz) (e2_fa ein_89 (e2_fa ein_90 e2_fz)) (by decide) co_a241 ex2_137 ck_a241
/-! a242 X9_does -/
def as_a242 : List ev_V := [(2, 0, 0), (11, 0, 4294967295)]
def E_a242 : e2_E := [(2147483648, 2147583648, 0, 0), (2147483652, 2147483668, 1, 0)]
noncomputable def f_a242 : ev_H := (an1030 : e2_Q8)
noncomputable def q_a242_0 : ev_H := (an1030 : e2_Q8)
noncomputable def rs_a242 : e2_Rs := [((11, 0, 4294967295), q_a242_0)]
noncomputable def s_a242 : e2_Sm := (138, as_a242, E_a242, f_a242, rs_a242)
noncomputable def S_a242 : List e2_Sm := [s_a223, s_a234]
noncomputable def I_a242 : List e2_In := [(161, 2, e2x_161)]
set_option maxRecDepth 1000000 in
theorem ck_a242 : e2_run (e2_cal S_a242 I_a242 4000 1) (e2_fin rs_a242) e2x_138 (fun _ => false) (fun _ _ _ _ _ => false) 4000 (e2_seek e2x_138 0) (e2_al 2 as_a242) [] E_a242 f_a242 = true := by decide +kernel
set_option maxRecDepth 1000000 in
theorem co_a242 : e2_okSB E_a242.length as_a242 f_a242 rs_a242 = true := by decide +kernel
theorem cs_a242 (hen : en_ok) (l : Launch) (hh : e2_hand_a l) : e2_smOk l 64 s_a242 := e2_con0 (H := 62) (n := 1) (C := evd_138) (S := S_a242) (I := I_a242) (fuel := 4000) [] hen ei_138 (e2_fa ((cs_a223 hen l).mono (by decide)) (e2_fa (cs_a234 hen l hh) e2_fz)) (e2_fa ein_161 e2_fz) (by decide) co_a242 ex2_138 ck_a242
/-! a243 X9_readAll -/
def as_a243 : List ev_V := [(2, 0, 0), (2, 40, 0)]
def E_a243 : e2_E := [(2147483648, 2147583648, 0, 0), (2147483652, 2147483668, 1, 0)]
def an1088 : e2_Q4 := (an916, an261)
def an1089 : e2_Q5 := (an1004, an1088)
def an1090 : e2_Q6 := (an1089, an919)
def an1091 : e2_Q7 := (an1090, an1008)
def an1092 : e2_Q3 := (an302, an922)
def an1093 : e2_Q4 := (an1092, an306)
def an1094 : e2_Q5 := (an880, an1093)
def an1095 : e2_Q6 := (an1094, an882)
def an1096 : e2_Q7 := (an1095, an1014)
def an1097 : e2_Q8 := (an1091, an1096)
noncomputable def f_a243 : ev_H := (an1097 : e2_Q8)
def an1098 : e2_Q7 := (an1090, an296)
def an1099 : e2_Q5 := (an341, an451)
def an1100 : e2_Q6 := (an1094, an1099)
def an1101 : e2_Q7 := (an1100, an1023)
def an1102 : e2_Q8 := (an1098, an1101)
noncomputable def q_a243_0 : ev_H := (an1102 : e2_Q8)
noncomputable def rs_a243 : e2_Rs := [((11, 0, 4294967295), q_a243_0)]
noncomputable def s_a243 : e2_Sm := (166, as_a243, E_a243, f_a243, rs_a243)
noncomputable def S_a243 : List e2_Sm := [s_a3, s_a222]
noncomputable def I_a243 : List e2_In := []
set_option maxRecDepth 1000000 in
theorem ck_a243 : e2_run (e2_cal S_a243 I_a243 4000 0) (e2_fin rs_a243) e2x_166 (fun _ => false) (fun _ _ _ _ _ => false) 4000 (e2_seek e2x_166 0) (e2_al 3 as_a243) [] E_a243 f_a243 = true := by decide +kernel
set_option maxRecDepth 1000000 in
theorem co_a243 : e2_okSB E_a243.length as_a243 f_a243 rs_a243 = true := by decide +kernel
theorem cs_a243 (hen : en_ok) (l : Launch) (hh : e2_hand_a l) : e2_smOk l 61 s_a243 := e2_con0 (H := 60) (n := 0) (C := evd_166) (S := S_a243) (I := I_a243) (fuel := 4000) [] hen ei_166 (e2_fa (hh _ hm_a3) (e2_fa ((cs_a222 hen l).mono (by decide)) e2_fz)) e2_fz (by decide) co_a243 ex2_166 ck_a243
/-! a244 X9_passYear -/
def as_a244 : List ev_V := [(2, 0, 0), (2, 40, 0)]
def E_a244 : e2_E := [(2147483648, 2147583648, 0, 0), (2147483652, 2147483668, 1, 0)]
def an1103 : e2_Q3 := (an670, an915)
def an1104 : e2_Q4 := (an1103, an261)
def an1105 : e2_Q5 := (an1038, an1104)
def an1106 : e2_Q6 := (an1105, an919)
def an1107 : e2_Q3 := (an280, an965)
def an1108 : e2_Q4 := (an1107, an284)
def an1109 : e2_Q5 := (an892, an1108)
def an1110 : e2_Q5 := (an294, an470)
def an1111 : e2_Q6 := (an1109, an1110)
def an1112 : e2_Q7 := (an1106, an1111)
def an1113 : e2_Q3 := (an455, an484)
def an1114 : e2_Q4 := (an1113, an218)
def an1115 : e2_Q5 := (an323, an1114)
def an1116 : e2_Q5 := (an1012, an1047)
def an1117 : e2_Q6 := (an1115, an1116)
def an1118 : e2_Q7 := (an1095, an1117)
def an1119 : e2_Q8 := (an1112, an1118)
noncomputable def f_a244 : ev_H := (an1119 : e2_Q8)
def an1120 : e2_Q5 := (an279, an1108)
def an1121 : e2_Q6 := (an1120, an1110)
def an1122 : e2_Q7 := (an1106, an1121)
def an1123 : e2_Q5 := (an347, an1114)
def an1124 : e2_Q5 := (an1012, an1055)
def an1125 : e2_Q6 := (an1123, an1124)
def an1126 : e2_Q7 := (an1100, an1125)
def an1127 : e2_Q8 := (an1122, an1126)
noncomputable def q_a244_0 : ev_H := (an1127 : e2_Q8)
noncomputable def rs_a244 : e2_Rs := [((11, 2147483647, 2147483668), q_a244_0)]
noncomputable def s_a244 : e2_Sm := (168, as_a244, E_a244, f_a244, rs_a244)
noncomputable def S_a244 : List e2_Sm := [s_a4, s_a228, s_a243]
noncomputable def I_a244 : List e2_In := [(102, 3, e2x_102), (160, 2, e2x_160)]
set_option maxRecDepth 1000000 in
theorem co_a244 : e2_okSB E_a244.length as_a244 f_a244 rs_a244 = true := by decide +kernel
def al_a244_0 : List ev_V := [(2, 0, 0), (2, 40, 0), (11, 2147483648, 2147483668), (1, 2, 4294967296), (9, 0, 0)]
def E_a244_0 : e2_E := [(2147483648, 2147583648, 0, 0), (2147483652, 2147483668, 1, 0), (2147483648, 2147483668, 2, 0)]
noncomputable def h_a244_0 : ev_H := (an1127 : e2_Q8)
noncomputable def cl_a244_e : List (Nat × e2_S) := [(30, e2_cutL (al_a244_0.set 3 (11, 2147483648, 2147483668)) 2 (E_a244_0.take 2) h_a244_0)]
set_option maxRecDepth 1000000 in
theorem ck_a244_e : e2_run (e2_cal S_a244 I_a244 4000 2) (e2_fin rs_a244) e2x_168 (e2_bpL cl_a244_e) (e2_cutA cl_a244_e) 4000 (e2_seek e2x_168 0) (e2_al 5 as_a244) [] E_a244 f_a244 = true := by decide +kernel
noncomputable def cl_a244_0 : List (Nat × e2_S) := [(30, e2_cutL (al_a244_0.set 3 (13, 10, 2147483668)) 2 (E_a244_0.take 2) h_a244_0)]
set_option maxRecDepth 1000000 in
theorem ck_a244_0 : e2_runM (e2_cal S_a244 I_a244 4000 2) (e2_fin rs_a244) e2x_168 (e2_bpL cl_a244_0) (e2_cutA cl_a244_0) 4000 (e2_seek e2x_168 30) al_a244_0 [] E_a244_0 h_a244_0 = true := by decide +kernel
set_option maxRecDepth 1000000 in
theorem ci_a244_0 : e2_idl 2 (al_a244_0.set 3 (9, 0, 0)) = true := by decide +kernel
set_option maxRecDepth 1000000 in
theorem cj_a244_0 : e2_idh 2 8 h_a244_0 = true := by decide +kernel
theorem cs_a244 (hen : en_ok) (l : Launch) (hh : e2_hand_a l) : e2_smOk l 64 s_a244 := by
  refine e2_conG (H := 61) (n := 2) (C := evd_168) (S := S_a244) (I := I_a244) (fuel := 4000) hen ei_168 (e2_fa ((hh _ hm_a4).mono (by decide)) (e2_fa ((cs_a228 hen l).mono (by decide)) (e2_fa (cs_a243 hen l hh) e2_fz))) (e2_fa ein_102 (e2_fa ein_160 e2_fz)) (by decide) co_a244 fun M d _ hC hcall p e R s m args below meth c Q D cA A ads r0 ha hl0 => ?_
  have L_0 : e2_gdM M p l e R s m args below meth c Q D cA A ads r0 30 al_a244_0 [] E_a244_0 h_a244_0 := by
    refine e2_indL (u := 2) (j := 3) (lo := 2147483648) (hi := 2147483668) (b := 2) (dd := 0) hl0 (by decide) rfl rfl (Or.inr ⟨rfl, rfl⟩) rfl ci_a244_0 cj_a244_0 ?_
    intro r_0 k_0 hk_0 hp_0 hs_0 hn_0
    have hl_0 : r_0.length ≤ 3 := hs_0.len rfl
    have ha_0 := ha.ext hp_0
    exact e2_fromM hen ha_0 hcall (e2_cutA_ok (e2_fa (fun al st E h hc => hn_0 al st E h hc) e2_fz)) (hC []) (X := e2x_168) ex2_168 30 ck_a244_0
  have EN_0 := e2_entL (u := 2) (j := 3) (lo := 2147483648) (hi := 2147483668) hl0 rfl rfl rfl ci_a244_0 cj_a244_0 L_0
  exact e2_from hen ha hcall (e2_cutA_ok (e2_fa (fun al st E h hc => EN_0 al st E h hc) e2_fz)) (hC []) (X := e2x_168) ex2_168 0 ck_a244_e
/-! a245 X9_goAhead -/
def as_a245 : List ev_V := [(2, 0, 0), (11, 0, 4294967295)]
def E_a245 : e2_E := [(2147483648, 2147583648, 0, 0), (2147483652, 2147483668, 1, 0)]
def an1128 : e2_Q6 := (an1105, an890)
def an1129 : e2_Q6 := (an1109, an1041)
def an1130 : e2_Q7 := (an1128, an1129)
def an1131 : e2_Q6 := (an1094, an898)
def an1132 : e2_Q7 := (an1131, an1117)
def an1133 : e2_Q8 := (an1130, an1132)
noncomputable def f_a245 : ev_H := (an1133 : e2_Q8)
noncomputable def q_a245_0 : ev_H := (an1133 : e2_Q8)
noncomputable def rs_a245 : e2_Rs := [((11, 2147483648, 2147483649), q_a245_0)]
noncomputable def s_a245 : e2_Sm := (169, as_a245, E_a245, f_a245, rs_a245)
noncomputable def S_a245 : List e2_Sm := [s_a244]
noncomputable def I_a245 : List e2_In := [(99, 2, e2x_99)]
set_option maxRecDepth 1000000 in
theorem co_a245 : e2_okSB E_a245.length as_a245 f_a245 rs_a245 = true := by decide +kernel
def al_a245_0 : List ev_V := [(2, 0, 0), (11, 2147483648, 2147483708), (1, 2, 4294967296)]
def E_a245_0 : e2_E := [(2147483648, 2147583648, 0, 0), (2147483652, 2147483668, 1, 0), (2147483648, 2147483708, 2, 0)]
noncomputable def h_a245_0 : ev_H := (an1133 : e2_Q8)
noncomputable def cl_a245_e : List (Nat × e2_S) := [(25, e2_cutL (al_a245_0.set 2 (11, 2147483648, 2147483708)) 2 (E_a245_0.take 2) h_a245_0)]
set_option maxRecDepth 1000000 in
theorem ck_a245_e : e2_run (e2_cal S_a245 I_a245 4000 1) (e2_fin rs_a245) e2x_169 (e2_bpL cl_a245_e) (e2_cutA cl_a245_e) 4000 (e2_seek e2x_169 0) (e2_al 3 as_a245) [] E_a245 f_a245 = true := by decide +kernel
noncomputable def cl_a245_0 : List (Nat × e2_S) := [(25, e2_cutL (al_a245_0.set 2 (13, 10, 2147483708)) 2 (E_a245_0.take 2) h_a245_0)]
set_option maxRecDepth 1000000 in
theorem ck_a245_0 : e2_runM (e2_cal S_a245 I_a245 4000 1) (e2_fin rs_a245) e2x_169 (e2_bpL cl_a245_0) (e2_cutA cl_a245_0) 4000 (e2_seek e2x_169 25) al_a245_0 [] E_a245_0 h_a245_0 = true := by decide +kernel
set_option maxRecDepth 1000000 in
theorem ci_a245_0 : e2_idl 2 (al_a245_0.set 2 (9, 0, 0)) = true := by decide +kernel
set_option maxRecDepth 1000000 in
theorem cj_a245_0 : e2_idh 2 8 h_a245_0 = true := by decide +kernel
theorem cs_a245 (hen : en_ok) (l : Launch) (hh : e2_hand_a l) : e2_smOk l 66 s_a245 := by
  refine e2_conG (H := 64) (n := 1) (C := evd_169) (S := S_a245) (I := I_a245) (fuel := 4000) hen ei_169 (e2_fa (cs_a244 hen l hh) e2_fz) (e2_fa ein_99 e2_fz) (by decide) co_a245 fun M d _ hC hcall p e R s m args below meth c Q D cA A ads r0 ha hl0 => ?_
  have L_0 : e2_gdM M p l e R s m args below meth c Q D cA A ads r0 25 al_a245_0 [] E_a245_0 h_a245_0 := by
    refine e2_indL (u := 2) (j := 2) (lo := 2147483648) (hi := 2147483708) (b := 2) (dd := 0) hl0 (by decide) rfl rfl (Or.inr ⟨rfl, rfl⟩) rfl ci_a245_0 cj_a245_0 ?_
    intro r_0 k_0 hk_0 hp_0 hs_0 hn_0
    have hl_0 : r_0.length ≤ 3 := hs_0.len rfl
    have ha_0 := ha.ext hp_0
    exact e2_fromM hen ha_0 hcall (e2_cutA_ok (e2_fa (fun al st E h hc => hn_0 al st E h hc) e2_fz)) (hC []) (X := e2x_169) ex2_169 25 ck_a245_0
  have EN_0 := e2_entL (u := 2) (j := 2) (lo := 2147483648) (hi := 2147483708) hl0 rfl rfl rfl ci_a245_0 cj_a245_0 L_0
  exact e2_from hen ha hcall (e2_cutA_ok (e2_fa (fun al st E h hc => EN_0 al st E h hc) e2_fz)) (hC []) (X := e2x_169) ex2_169 0 ck_a245_e
/-! a246 X9_will -/
def as_a246 : List ev_V := [(2, 0, 0), (11, 0, 4294967295), (11, 0, 4294967295)]
def E_a246 : e2_E := [(2147483648, 2147583648, 0, 0), (2147483652, 2147483668, 1, 0)]
noncomputable def f_a246 : ev_H := (an1133 : e2_Q8)
noncomputable def q_a246_0 : ev_H := (an1133 : e2_Q8)
noncomputable def rs_a246 : e2_Rs := [((11, 0, 4294967295), q_a246_0)]
noncomputable def s_a246 : e2_Sm := (139, as_a246, E_a246, f_a246, rs_a246)
noncomputable def S_a246 : List e2_Sm := [s_a245]
noncomputable def I_a246 : List e2_In := [(161, 2, e2x_161)]
set_option maxRecDepth 1000000 in
theorem ck_a246 : e2_run (e2_cal S_a246 I_a246 4000 1) (e2_fin rs_a246) e2x_139 (fun _ => false) (fun _ _ _ _ _ => false) 4000 (e2_seek e2x_139 0) (e2_al 3 as_a246) [] E_a246 f_a246 = true := by decide +kernel
set_option maxRecDepth 1000000 in
theorem co_a246 : e2_okSB E_a246.length as_a246 f_a246 rs_a246 = true := by decide +kernel
theorem cs_a246 (hen : en_ok) (l : Launch) (hh : e2_hand_a l) : e2_smOk l 68 s_a246 := e2_con0 (H := 66) (n := 1) (C := evd_139) (S := S_a246) (I := I_a246) (fuel := 4000) [] hen ei_139 (e2_fa (cs_a245 hen l hh) e2_fz) (e2_fa ein_161 e2_fz) (by decide) co_a246 ex2_139 ck_a246
/-! a247 X9_field -/
def as_a247 : List ev_V := [(2, 0, 0), (11, 0, 4294967295)]
def E_a247 : e2_E := [(2147483648, 2147583648, 0, 0), (2147483652, 2147483668, 1, 0)]
noncomputable def f_a247 : ev_H := (an1133 : e2_Q8)
noncomputable def q_a247_0 : ev_H := (an1133 : e2_Q8)
noncomputable def rs_a247 : e2_Rs := [((11, 0, 4294967295), q_a247_0)]
noncomputable def s_a247 : e2_Sm := (140, as_a247, E_a247, f_a247, rs_a247)
noncomputable def S_a247 : List e2_Sm := [s_a245]
noncomputable def I_a247 : List e2_In := []
set_option maxRecDepth 1000000 in
theorem ck_a247 : e2_run (e2_cal S_a247 I_a247 4000 0) (e2_fin rs_a247) e2x_140 (fun _ => false) (fun _ _ _ _ _ => false) 4000 (e2_seek e2x_140 0) (e2_al 2 as_a247) [] E_a247 f_a247 = true := by decide +kernel
set_option maxRecDepth 1000000 in
theorem co_a247 : e2_okSB E_a247.length as_a247 f_a247 rs_a247 = true := by decide +kernel
theorem cs_a247 (hen : en_ok) (l : Launch) (hh : e2_hand_a l) : e2_smOk l 67 s_a247 := e2_con0 (H := 66) (n := 0) (C := evd_140) (S := S_a247) (I := I_a247) (fuel := 4000) [] hen ei_140 (e2_fa (cs_a245 hen l hh) e2_fz) e2_fz (by decide) co_a247 ex2_140 ck_a247
/-! a248 X9_harm -/
def as_a248 : List ev_V := [(2, 0, 0)]
def E_a248 : e2_E := [(2147483648, 2147583648, 0, 0), (2147483652, 2147483668, 1, 0)]
noncomputable def f_a248 : ev_H := (an1030 : e2_Q8)
def an1134 : e2_Q7 := (an1028, an296)
def an1135 : e2_Q8 := (an1134, an1024)
noncomputable def q_a248_0 : ev_H := (an1135 : e2_Q8)
noncomputable def rs_a248 : e2_Rs := [((11, 2147483648, 2147483649), q_a248_0)]
noncomputable def s_a248 : e2_Sm := (141, as_a248, E_a248, f_a248, rs_a248)
noncomputable def S_a248 : List e2_Sm := [s_a224, s_a234]
noncomputable def I_a248 : List e2_In := []
set_option maxRecDepth 1000000 in
theorem ck_a248 : e2_run (e2_cal S_a248 I_a248 4000 0) (e2_fin rs_a248) e2x_141 (fun _ => false) (fun _ _ _ _ _ => false) 4000 (e2_seek e2x_141 0) (e2_al 1 as_a248) [] E_a248 f_a248 = true := by decide +kernel
set_option maxRecDepth 1000000 in
theorem co_a248 : e2_okSB E_a248.length as_a248 f_a248 rs_a248 = true := by decide +kernel
theorem cs_a248 (hen : en_ok) (l : Launch) (hh : e2_hand_a l) : e2_smOk l 63 s_a248 := e2_con0 (H := 62) (n := 0) (C := evd_141) (S := S_a248) (I := I_a248) (fuel := 4000) [] hen ei_141 (e2_fa ((cs_a224 hen l).mono (by decide)) (e2_fa (cs_a234 hen l hh) e2_fz)) e2_fz (by decide) co_a248 ex2_141 ck_a248
/-! a249 X9_turn -/
def as_a249 : List ev_V := [(2, 0, 0), (11, 0, 4294967295), (11, 0, 4294967295)]
def E_a249 : e2_E := [(2147483648, 2147583648, 0, 0), (2147483652, 2147483668, 1, 0)]
def an1136 : e2_Q5 := (an992, an683)
def an1137 : e2_Q2 := (an436, an282)
def an1138 : e2_Q3 := (an1137, an51)
def an1139 : e2_Q4 := (an1138, an742)
def an1140 : e2_Q5 := (an618, an1139)
def an1141 : e2_Q6 := (an1136, an1140)
def an1142 : e2_Q7 := (an1141, an383)
def an1143 : e2_Q5 := (an627, an390)
def an1144 : e2_Q4 := (an450, an714)
def an1145 : e2_Q5 := (an897, an1144)
def an1146 : e2_Q6 := (an1143, an1145)
def an1147 : e2_Q2 := (an454, an304)
def an1148 : e2_Q3 := (an1147, an210)
def an1149 : e2_Q4 := (an1148, an656)
def an1150 : e2_Q5 := (an636, an1149)
def an1151 : e2_Q6 := (an1150, an642)
def an1152 : e2_Q7 := (an1146, an1151)
def an1153 : e2_Q8 := (an1142, an1152)
noncomputable def f_a249 : ev_H := (an1153 : e2_Q8)
noncomputable def q_a249_0 : ev_H := (an1153 : e2_Q8)
noncomputable def rs_a249 : e2_Rs := [((11, 2147483647, 2147483651), q_a249_0)]
noncomputable def s_a249 : e2_Sm := (142, as_a249, E_a249, f_a249, rs_a249)
noncomputable def S_a249 : List e2_Sm := [s_a176, s_a192]
noncomputable def I_a249 : List e2_In := [(63, 1, e2x_63), (69, 3, e2x_69), (161, 2, e2x_161)]
set_option maxRecDepth 1000000 in
theorem ck_a249 : e2_run (e2_cal S_a249 I_a249 4000 1) (e2_fin rs_a249) e2x_142 (fun _ => false) (fun _ _ _ _ _ => false) 4000 (e2_seek e2x_142 0) (e2_al 3 as_a249) [] E_a249 f_a249 = true := by decide +kernel
set_option maxRecDepth 1000000 in
theorem co_a249 : e2_okSB E_a249.length as_a249 f_a249 rs_a249 = true := by decide +kernel
theorem cs_a249 (hen : en_ok) (l : Launch) (hh : e2_hand_a l) : e2_smOk l 71 s_a249 := e2_con0 (H := 69) (n := 1) (C := evd_142) (S := S_a249) (I := I_a249) (fuel := 4000) [] hen ei_142 (e2_fa ((cs_a176 hen l).mono (by decide)) (e2_fa (cs_a192 hen l hh) e2_fz)) (e2_fa ein_63 (e2_fa ein_69 (e2_fa ein_161 e2_fz))) (by decide) co_a249 ex2_142 ck_a249
/-! a250 X9_plain -/
def as_a250 : List ev_V := [(2, 0, 0)]
def E_a250 : e2_E := [(2147483648, 2147583648, 0, 0), (2147483652, 2147483668, 1, 0)]
noncomputable def f_a250 : ev_H := (an1153 : e2_Q8)
def an1154 : e2_Q5 := (an647, an1139)
def an1155 : e2_Q6 := (an1136, an1154)
def an1156 : e2_Q7 := (an1155, an383)
def an1157 : e2_Q3 := (an407, an631)
def an1158 : e2_Q4 := (an1157, an314)
def an1159 : e2_Q5 := (an1158, an1144)
def an1160 : e2_Q6 := (an406, an1159)
def an1161 : e2_Q4 := (an1148, an664)
def an1162 : e2_Q5 := (an636, an1161)
def an1163 : e2_Q6 := (an1162, an708)
def an1164 : e2_Q7 := (an1160, an1163)
def an1165 : e2_Q8 := (an1156, an1164)
noncomputable def q_a250_0 : ev_H := (an1165 : e2_Q8)
noncomputable def rs_a250 : e2_Rs := [((11, 2147483647, 2147483651), q_a250_0)]
noncomputable def s_a250 : e2_Sm := (143, as_a250, E_a250, f_a250, rs_a250)
noncomputable def S_a250 : List e2_Sm := [s_a176, s_a183, s_a193]
noncomputable def I_a250 : List e2_In := [(63, 1, e2x_63)]
set_option maxRecDepth 1000000 in
theorem ck_a250 : e2_run (e2_cal S_a250 I_a250 4000 1) (e2_fin rs_a250) e2x_143 (fun _ => false) (fun _ _ _ _ _ => false) 4000 (e2_seek e2x_143 0) (e2_al 1 as_a250) [] E_a250 f_a250 = true := by decide +kernel
set_option maxRecDepth 1000000 in
theorem co_a250 : e2_okSB E_a250.length as_a250 f_a250 rs_a250 = true := by decide +kernel
theorem cs_a250 (hen : en_ok) (l : Launch) (hh : e2_hand_a l) : e2_smOk l 71 s_a250 := e2_con0 (H := 69) (n := 1) (C := evd_143) (S := S_a250) (I := I_a250) (fuel := 4000) [] hen ei_143 (e2_fa ((cs_a176 hen l).mono (by decide)) (e2_fa ((cs_a183 hen l hh).mono (by decide)) (e2_fa (cs_a193 hen l hh) e2_fz))) (e2_fa ein_63 e2_fz) (by decide) co_a250 ex2_143 ck_a250
/-! a251 X9_orders -/
def as_a251 : List ev_V := [(2, 0, 0), (11, 0, 4294967295)]
def E_a251 : e2_E := [(2147483648, 2147583648, 0, 0), (2147483652, 2147483668, 1, 0)]
def an1166 : e2_Q7 := (an1141, an775)
def an1167 : e2_Q6 := (an1143, an898)
def an1168 : e2_Q5 := (an641, an764)
def an1169 : e2_Q6 := (an1150, an1168)
def an1170 : e2_Q7 := (an1167, an1169)
def an1171 : e2_Q8 := (an1166, an1170)
noncomputable def f_a251 : ev_H := (an1171 : e2_Q8)
noncomputable def q_a251_0 : ev_H := (an1171 : e2_Q8)
noncomputable def rs_a251 : e2_Rs := [((11, 0, 4294967295), q_a251_0)]
noncomputable def s_a251 : e2_Sm := (144, as_a251, E_a251, f_a251, rs_a251)
noncomputable def S_a251 : List e2_Sm := [s_a176, s_a198]
noncomputable def I_a251 : List e2_In := [(63, 1, e2x_63), (164, 1, e2x_164), (165, 2, e2x_165), (291, 1, e2x_291)]
set_option maxRecDepth 1000000 in
theorem ck_a251 : e2_run (e2_cal S_a251 I_a251 4000 2) (e2_fin rs_a251) e2x_144 (fun _ => false) (fun _ _ _ _ _ => false) 4000 (e2_seek e2x_144 0) (e2_al 2 as_a251) [] E_a251 f_a251 = true := by decide +kernel
set_option maxRecDepth 1000000 in
theorem co_a251 : e2_okSB E_a251.length as_a251 f_a251 rs_a251 = true := by decide +kernel
theorem cs_a251 (hen : en_ok) (l : Launch) (hh : e2_hand_a l) : e2_smOk l 65 s_a251 := e2_con0 (H := 62) (n := 2) (C := evd_144) (S := S_a251) (I := I_a251) (fuel := 4000) [] hen ei_144 (e2_fa ((cs_a176 hen l).mono (by decide)) (e2_fa (cs_a198 hen l hh) e2_fz)) (e2_fa ein_63 (e2_fa ein_164 (e2_fa ein_165 (e2_fa ein_291 e2_fz)))) (by decide) co_a251 ex2_144 ck_a251
/-! a252 X9_write -/
def as_a252 : List ev_V := [(2, 0, 0), (11, 0, 4294967295), (11, 0, 4294967295), (11, 0, 4294967295)]
def E_a252 : e2_E := [(2147483648, 2147583648, 0, 0), (2147483652, 2147483668, 1, 0)]
def an1172 : e2_Q2 := (an989, an845)
def an1173 : e2_Q3 := (an1172, an5)
def an1174 : e2_Q4 := (an1173, an13)
def an1175 : e2_Q5 := (an1174, an359)
def an1176 : e2_Q6 := (an1175, an1140)
def an1177 : e2_Q7 := (an1176, an383)
def an1178 : e2_Q7 := (an1167, an1151)
def an1179 : e2_Q8 := (an1177, an1178)
noncomputable def f_a252 : ev_H := (an1179 : e2_Q8)
noncomputable def q_a252_0 : ev_H := (an1179 : e2_Q8)
noncomputable def rs_a252 : e2_Rs := [((11, 2147483647, 2147483837), q_a252_0)]
noncomputable def s_a252 : e2_Sm := (145, as_a252, E_a252, f_a252, rs_a252)
noncomputable def S_a252 : List e2_Sm := [s_a176, s_a214]
noncomputable def I_a252 : List e2_In := [(63, 1, e2x_63), (162, 2, e2x_162)]
set_option maxRecDepth 1000000 in
theorem ck_a252 : e2_run (e2_cal S_a252 I_a252 4000 1) (e2_fin rs_a252) e2x_145 (fun _ => false) (fun _ _ _ _ _ => false) 4000 (e2_seek e2x_145 0) (e2_al 6 as_a252) [] E_a252 f_a252 = true := by decide +kernel
set_option maxRecDepth 1000000 in
theorem co_a252 : e2_okSB E_a252.length as_a252 f_a252 rs_a252 = true := by decide +kernel
theorem cs_a252 (hen : en_ok) (l : Launch) (hh : e2_hand_a l) : e2_smOk l 72 s_a252 := e2_con0 (H := 70) (n := 1) (C := evd_145) (S := S_a252) (I := I_a252) (fuel := 4000) [] hen ei_145 (e2_fa ((cs_a176 hen l).mono (by decide)) (e2_fa (cs_a214 hen l hh) e2_fz)) (e2_fa ein_63 (e2_fa ein_162 e2_fz)) (by decide) co_a252 ex2_145 ck_a252
/-! a253 X9_watch -/
def as_a253 : List ev_V := [(2, 0, 0)]
def E_a253 : e2_E := [(2147483648, 2147583648, 0, 0), (2147483652, 2147483668, 1, 0)]
def an1180 : e2_Q4 := (an1138, an59)
def an1181 : e2_Q5 := (an618, an1180)
def an1182 : e2_Q6 := (an1136, an1181)
def an1183 : e2_Q7 := (an1182, an383)
def an1184 : e2_Q8 := (an1183, an1178)
noncomputable def f_a253 : ev_H := (an1184 : e2_Q8)
def an1185 : e2_Q5 := (an647, an1180)
def an1186 : e2_Q6 := (an1136, an1185)
def an1187 : e2_Q7 := (an1186, an383)
def an1188 : e2_Q6 := (an423, an898)
def an1189 : e2_Q6 := (an1162, an642)
def an1190 : e2_Q7 := (an1188, an1189)
def an1191 : e2_Q8 := (an1187, an1190)
noncomputable def q_a253_0 : ev_H := (an1191 : e2_Q8)
noncomputable def rs_a253 : e2_Rs := [((11, 0, 4294967295), q_a253_0)]
noncomputable def s_a253 : e2_Sm := (146, as_a253, E_a253, f_a253, rs_a253)
noncomputable def S_a253 : List e2_Sm := [s_a176, s_a215]
noncomputable def I_a253 : List e2_In := []
set_option maxRecDepth 1000000 in
theorem ck_a253 : e2_run (e2_cal S_a253 I_a253 4000 0) (e2_fin rs_a253) e2x_146 (fun _ => false) (fun _ _ _ _ _ => false) 4000 (e2_seek e2x_146 0) (e2_al 1 as_a253) [] E_a253 f_a253 = true := by decide +kernel
set_option maxRecDepth 1000000 in
theorem co_a253 : e2_okSB E_a253.length as_a253 f_a253 rs_a253 = true := by decide +kernel
theorem cs_a253 (hen : en_ok) (l : Launch) (hh : e2_hand_a l) : e2_smOk l 64 s_a253 := e2_con0 (H := 63) (n := 0) (C := evd_146) (S := S_a253) (I := I_a253) (fuel := 4000) [] hen ei_146 (e2_fa ((cs_a176 hen l).mono (by decide)) (e2_fa (cs_a215 hen l hh) e2_fz)) e2_fz (by decide) co_a253 ex2_146 ck_a253
/-! a254 X9_cows -/
def as_a254 : List ev_V := [(2, 0, 0), (11, 0, 4294967295), (11, 0, 4294967295)]
def E_a254 : e2_E := [(2147483648, 2147583648, 0, 0), (2147483652, 2147483668, 1, 0)]
noncomputable def f_a254 : ev_H := (an1184 : e2_Q8)
noncomputable def q_a254_0 : ev_H := (an1184 : e2_Q8)
noncomputable def rs_a254 : e2_Rs := [((11, 0, 4294967295), q_a254_0)]
noncomputable def s_a254 : e2_Sm := (147, as_a254, E_a254, f_a254, rs_a254)
noncomputable def S_a254 : List e2_Sm := [s_a176, s_a216]
noncomputable def I_a254 : List e2_In := [(161, 2, e2x_161), (164, 1, e2x_164), (291, 1, e2x_291)]
set_option maxRecDepth 1000000 in
theorem ck_a254 : e2_run (e2_cal S_a254 I_a254 4000 1) (e2_fin rs_a254) e2x_147 (fun _ => false) (fun _ _ _ _ _ => false) 4000 (e2_seek e2x_147 0) (e2_al 3 as_a254) [] E_a254 f_a254 = true := by decide +kernel
set_option maxRecDepth 1000000 in
theorem co_a254 : e2_okSB E_a254.length as_a254 f_a254 rs_a254 = true := by decide +kernel
theorem cs_a254 (hen : en_ok) (l : Launch) (hh : e2_hand_a l) : e2_smOk l 65 s_a254 := e2_con0 (H := 63) (n := 1) (C := evd_147) (S := S_a254) (I := I_a254) (fuel := 4000) [] hen ei_147 (e2_fa ((cs_a176 hen l).mono (by decide)) (e2_fa (cs_a216 hen l hh) e2_fz)) (e2_fa ein_161 (e2_fa ein_164 (e2_fa ein_291 e2_fz))) (by decide) co_a254 ex2_147 ck_a254
/-! a255 X9_duel -/
def as_a255 : List ev_V := [(2, 0, 0), (11, 0, 4294967295), (11, 0, 4294967295), (11, 0, 4294967295), (11, 0, 4294967295)]
def E_a255 : e2_E := [(2147483648, 2147583648, 0, 0), (2147483652, 2147483668, 1, 0)]
noncomputable def f_a255 : ev_H := (an1184 : e2_Q8)
noncomputable def q_a255_0 : ev_H := (an1184 : e2_Q8)
noncomputable def rs_a255 : e2_Rs := [((11, 0, 4294967295), q_a255_0)]
noncomputable def s_a255 : e2_Sm := (148, as_a255, E_a255, f_a255, rs_a255)
noncomputable def S_a255 : List e2_Sm := [s_a176, s_a219]
noncomputable def I_a255 : List e2_In := [(161, 2, e2x_161), (164, 1, e2x_164), (165, 2, e2x_165)]
set_option maxRecDepth 1000000 in
theorem ck_a255 : e2_run (e2_cal S_a255 I_a255 4000 2) (e2_fin rs_a255) e2x_148 (fun _ => false) (fun _ _ _ _ _ => false) 4000 (e2_seek e2x_148 0) (e2_al 6 as_a255) [] E_a255 f_a255 = true := by decide +kernel
set_option maxRecDepth 1000000 in
theorem co_a255 : e2_okSB E_a255.length as_a255 f_a255 rs_a255 = true := by decide +kernel
theorem cs_a255 (hen : en_ok) (l : Launch) (hh : e2_hand_a l) : e2_smOk l 68 s_a255 := e2_con0 (H := 65) (n := 2) (C := evd_148) (S := S_a255) (I := I_a255) (fuel := 4000) [] hen ei_148 (e2_fa ((cs_a176 hen l).mono (by decide)) (e2_fa (cs_a219 hen l hh) e2_fz)) (e2_fa ein_161 (e2_fa ein_164 (e2_fa ein_165 e2_fz))) (by decide) co_a255 ex2_148 ck_a255
/-! a256 X9_heard -/
def as_a256 : List ev_V := [(2, 0, 0), (11, 0, 4294967295), (11, 0, 4294967295), (11, 0, 4294967295), (11, 2147483648, 2147483649)]
def E_a256 : e2_E := [(2147483648, 2147583648, 0, 0), (2147483652, 2147483668, 1, 0)]
def an1192 : e2_Q4 := (an991, an502)
def an1193 : e2_Q5 := (an1192, an29)
def an1194 : e2_Q6 := (an1193, an61)
def an1195 : e2_Q7 := (an1194, an510)
def an1196 : e2_Q8 := (an1195, an528)
noncomputable def f_a256 : ev_H := (an1196 : e2_Q8)
noncomputable def q_a256_0 : ev_H := (an1196 : e2_Q8)
noncomputable def rs_a256 : e2_Rs := [((11, 2147483647, 2147483677), q_a256_0)]
noncomputable def s_a256 : e2_Sm := (150, as_a256, E_a256, f_a256, rs_a256)
noncomputable def S_a256 : List e2_Sm := [s_a13]
noncomputable def I_a256 : List e2_In := []
set_option maxRecDepth 1000000 in
theorem ck_a256 : e2_run (e2_cal S_a256 I_a256 4000 0) (e2_fin rs_a256) e2x_150 (fun _ => false) (fun _ _ _ _ _ => false) 4000 (e2_seek e2x_150 0) (e2_al 5 as_a256) [] E_a256 f_a256 = true := by decide +kernel
set_option maxRecDepth 1000000 in
theorem co_a256 : e2_okSB E_a256.length as_a256 f_a256 rs_a256 = true := by decide +kernel
theorem cs_a256 (hen : en_ok) (l : Launch) : e2_smOk l 3 s_a256 := e2_con0 (H := 2) (n := 0) (C := evd_150) (S := S_a256) (I := I_a256) (fuel := 4000) [] hen ei_150 (e2_fa (cs_a13 hen l) e2_fz) e2_fz (by decide) co_a256 ex2_150 ck_a256
/-! a257 X9_fit -/
def as_a257 : List ev_V := [(2, 0, 0), (11, 0, 4294967295)]
def E_a257 : e2_E := [(2147483648, 2147583648, 0, 0), (2147483652, 2147483668, 1, 0)]
def an1197 : e2_Q7 := (an1194, an540)
def an1198 : e2_Q8 := (an1197, an528)
noncomputable def f_a257 : ev_H := (an1198 : e2_Q8)
noncomputable def q_a257_0 : ev_H := (an1198 : e2_Q8)
noncomputable def rs_a257 : e2_Rs := [((11, 2147483648, 2147549184), q_a257_0)]
noncomputable def s_a257 : e2_Sm := (153, as_a257, E_a257, f_a257, rs_a257)
noncomputable def S_a257 : List e2_Sm := [s_a32]
noncomputable def I_a257 : List e2_In := []
set_option maxRecDepth 1000000 in
theorem ck_a257 : e2_run (e2_cal S_a257 I_a257 4000 0) (e2_fin rs_a257) e2x_153 (fun _ => false) (fun _ _ _ _ _ => false) 4000 (e2_seek e2x_153 0) (e2_al 2 as_a257) [] E_a257 f_a257 = true := by decide +kernel
set_option maxRecDepth 1000000 in
theorem co_a257 : e2_okSB E_a257.length as_a257 f_a257 rs_a257 = true := by decide +kernel
theorem cs_a257 (hen : en_ok) (l : Launch) : e2_smOk l 20 s_a257 := e2_con0 (H := 19) (n := 0) (C := evd_153) (S := S_a257) (I := I_a257) (fuel := 4000) [] hen ei_153 (e2_fa (cs_a32 hen l) e2_fz) e2_fz (by decide) co_a257 ex2_153 ck_a257
/-! a258 X9_sure -/
def as_a258 : List ev_V := [(2, 0, 0), (11, 0, 4294967295), (11, 0, 4294967295), (11, 0, 4294967295)]
def E_a258 : e2_E := [(2147483648, 2147583648, 0, 0), (2147483652, 2147483668, 1, 0)]
noncomputable def f_a258 : ev_H := (an1198 : e2_Q8)
noncomputable def q_a258_0 : ev_H := (an1198 : e2_Q8)
noncomputable def rs_a258 : e2_Rs := [((11, 2147483646, 2147483649), q_a258_0)]
noncomputable def s_a258 : e2_Sm := (154, as_a258, E_a258, f_a258, rs_a258)
noncomputable def S_a258 : List e2_Sm := [s_a33]
noncomputable def I_a258 : List e2_In := []
set_option maxRecDepth 1000000 in
theorem ck_a258 : e2_run (e2_cal S_a258 I_a258 4000 0) (e2_fin rs_a258) e2x_154 (fun _ => false) (fun _ _ _ _ _ => false) 4000 (e2_seek e2x_154 0) (e2_al 4 as_a258) [] E_a258 f_a258 = true := by decide +kernel
set_option maxRecDepth 1000000 in
theorem co_a258 : e2_okSB E_a258.length as_a258 f_a258 rs_a258 = true := by decide +kernel
theorem cs_a258 (hen : en_ok) (l : Launch) : e2_smOk l 22 s_a258 := e2_con0 (H := 21) (n := 0) (C := evd_154) (S := S_a258) (I := I_a258) (fuel := 4000) [] hen ei_154 (e2_fa (cs_a33 hen l) e2_fz) e2_fz (by decide) co_a258 ex2_154 ck_a258
/-! a259 X9_ask -/
def as_a259 : List ev_V := [(2, 0, 0), (11, 0, 4294967295), (11, 0, 4294967295)]
def E_a259 : e2_E := [(2147483648, 2147583648, 0, 0), (2147483652, 2147483668, 1, 0)]
noncomputable def f_a259 : ev_H := (an1198 : e2_Q8)
noncomputable def q_a259_0 : ev_H := (an1198 : e2_Q8)
noncomputable def rs_a259 : e2_Rs := [((11, 2147483647, 2147549184), q_a259_0)]
noncomputable def s_a259 : e2_Sm := (155, as_a259, E_a259, f_a259, rs_a259)
noncomputable def S_a259 : List e2_Sm := [s_a34]
noncomputable def I_a259 : List e2_In := []
set_option maxRecDepth 1000000 in
theorem ck_a259 : e2_run (e2_cal S_a259 I_a259 4000 0) (e2_fin rs_a259) e2x_155 (fun _ => false) (fun _ _ _ _ _ => false) 4000 (e2_seek e2x_155 0) (e2_al 3 as_a259) [] E_a259 f_a259 = true := by decide +kernel
set_option maxRecDepth 1000000 in
theorem co_a259 : e2_okSB E_a259.length as_a259 f_a259 rs_a259 = true := by decide +kernel
theorem cs_a259 (hen : en_ok) (l : Launch) : e2_smOk l 22 s_a259 := e2_con0 (H := 21) (n := 0) (C := evd_155) (S := S_a259) (I := I_a259) (fuel := 4000) [] hen ei_155 (e2_fa (cs_a34 hen l) e2_fz) e2_fz (by decide) co_a259 ex2_155 ck_a259
/-! a260 X9_about -/
def as_a260 : List ev_V := [(2, 0, 0), (11, 0, 4294967295)]
def E_a260 : e2_E := [(2147483648, 2147583648, 0, 0), (2147483652, 2147483668, 1, 0)]
def an1199 : e2_Q3 := (an48, an1061)
def an1200 : e2_Q4 := (an1199, an59)
def an1201 : e2_Q5 := (an952, an1200)
def an1202 : e2_Q6 := (an993, an1201)
def an1203 : e2_Q7 := (an1202, an125)
def an1204 : e2_Q3 := (an299, an997)
def an1205 : e2_Q4 := (an1204, an140)
def an1206 : e2_Q5 := (an1205, an156)
def an1207 : e2_Q6 := (an1206, an520)
def an1208 : e2_Q4 := (an211, an656)
def an1209 : e2_Q5 := (an431, an1208)
def an1210 : e2_Q6 := (an1209, an251)
def an1211 : e2_Q7 := (an1207, an1210)
def an1212 : e2_Q8 := (an1203, an1211)
noncomputable def f_a260 : ev_H := (an1212 : e2_Q8)
noncomputable def q_a260_0 : ev_H := (an1212 : e2_Q8)
noncomputable def rs_a260 : e2_Rs := [((11, 0, 4294967295), q_a260_0)]
noncomputable def s_a260 : e2_Sm := (158, as_a260, E_a260, f_a260, rs_a260)
noncomputable def S_a260 : List e2_Sm := []
noncomputable def I_a260 : List e2_In := []
set_option maxRecDepth 1000000 in
theorem ck_a260 : e2_run (e2_cal S_a260 I_a260 4000 0) (e2_fin rs_a260) e2x_158 (fun _ => false) (fun _ _ _ _ _ => false) 4000 (e2_seek e2x_158 0) (e2_al 2 as_a260) [] E_a260 f_a260 = true := by decide +kernel
set_option maxRecDepth 1000000 in
theorem co_a260 : e2_okSB E_a260.length as_a260 f_a260 rs_a260 = true := by decide +kernel
theorem cs_a260 (hen : en_ok) (l : Launch) : e2_smOk l 1 s_a260 := e2_con0 (H := 0) (n := 0) (C := evd_158) (S := S_a260) (I := I_a260) (fuel := 4000) [] hen ei_158 e2_fz e2_fz (by decide) co_a260 ex2_158 ck_a260
