/-! CONTRACTS b, printed by a program -/
/-! b178 X10_must -/
def as_b178 : List ev_V := [(2, 83, 0), (11, 2147483648, 2147483649)]
def E_b178 : e2_E := [(2147483648, 2147583648, 0, 0), (2147483648, 2147483656, 1, 0), (2147483648, 2147485249, 2, 0)]
def bn1082 : e2_Q7 := (bn736, bn367)
def bn1083 : e2_Q8 := (bn733, bn1082)
noncomputable def f_b178 : ev_H := (bn1083 : e2_Q8)
noncomputable def q_b178_0 : ev_H := (bn1083 : e2_Q8)
noncomputable def rs_b178 : e2_Rs := [((9, 0, 0), q_b178_0)]
noncomputable def s_b178 : e2_Sm := (181, as_b178, E_b178, f_b178, rs_b178)
noncomputable def S_b178 : List e2_Sm := []
noncomputable def I_b178 : List e2_In := [(174, 1, e2x_174)]
set_option maxRecDepth 1000000 in
theorem ck_b178 : e2_run (e2_cal S_b178 I_b178 4000 1) (e2_fin rs_b178) e2x_181 (fun _ => false) (fun _ _ _ _ _ => false) 4000 (e2_seek e2x_181 0) (e2_al 2 as_b178) [] E_b178 f_b178 = true := by decide +kernel
set_option maxRecDepth 1000000 in
theorem co_b178 : e2_okSB E_b178.length as_b178 f_b178 rs_b178 = true := by decide +kernel
theorem cs_b178 (hen : en_ok) (l : Launch) : e2_smOk l 2 s_b178 := e2_con0 (H := 0) (n := 1) (C := evd_181) (S := S_b178) (I := I_b178) (fuel := 4000) [] hen ei_181 e2_fz (e2_fa ein_174 e2_fz) (by decide) co_b178 ex2_181 ck_b178
/-! b179 X10_must -/
def as_b179 : List ev_V := [(2, 83, 0), (0, 0, 0)]
def E_b179 : e2_E := [(2147483648, 2147583648, 0, 0), (2147483648, 2147483656, 1, 0), (2147483648, 2147485249, 2, 0)]
def bn1084 : e2_Q7 := (bn736, bn375)
def bn1085 : e2_Q8 := (bn733, bn1084)
noncomputable def f_b179 : ev_H := (bn1085 : e2_Q8)
noncomputable def q_b179_0 : ev_H := (bn1085 : e2_Q8)
noncomputable def rs_b179 : e2_Rs := [((9, 0, 0), q_b179_0)]
noncomputable def s_b179 : e2_Sm := (181, as_b179, E_b179, f_b179, rs_b179)
noncomputable def S_b179 : List e2_Sm := []
noncomputable def I_b179 : List e2_In := [(174, 1, e2x_174)]
set_option maxRecDepth 1000000 in
theorem ck_b179 : e2_run (e2_cal S_b179 I_b179 4000 1) (e2_fin rs_b179) e2x_181 (fun _ => false) (fun _ _ _ _ _ => false) 4000 (e2_seek e2x_181 0) (e2_al 2 as_b179) [] E_b179 f_b179 = true := by decide +kernel
set_option maxRecDepth 1000000 in
theorem co_b179 : e2_okSB E_b179.length as_b179 f_b179 rs_b179 = true := by decide +kernel
theorem cs_b179 (hen : en_ok) (l : Launch) : e2_smOk l 2 s_b179 := e2_con0 (H := 0) (n := 1) (C := evd_181) (S := S_b179) (I := I_b179) (fuel := 4000) [] hen ei_181 e2_fz (e2_fa ein_174 e2_fz) (by decide) co_b179 ex2_181 ck_b179
/-! b180 X10_must -/
def as_b180 : List ev_V := [(2, 83, 0), (0, 0, 0)]
def E_b180 : e2_E := [(2147483648, 2147583648, 0, 0), (2147483648, 2147483656, 1, 0), (2147483648, 2147485249, 2, 0)]
def bn1086 : e2_Q5 := (bn321, bn365)
def bn1087 : e2_Q6 := (bn1086, bn250)
def bn1088 : e2_Q7 := (bn736, bn1087)
def bn1089 : e2_Q8 := (bn733, bn1088)
noncomputable def f_b180 : ev_H := (bn1089 : e2_Q8)
def bn1090 : e2_Q7 := (bn736, bn469)
def bn1091 : e2_Q8 := (bn733, bn1090)
noncomputable def q_b180_0 : ev_H := (bn1091 : e2_Q8)
noncomputable def rs_b180 : e2_Rs := [((9, 0, 0), q_b180_0)]
noncomputable def s_b180 : e2_Sm := (181, as_b180, E_b180, f_b180, rs_b180)
noncomputable def S_b180 : List e2_Sm := []
noncomputable def I_b180 : List e2_In := [(173, 3, e2x_173), (174, 1, e2x_174), (180, 1, e2x_180)]
set_option maxRecDepth 1000000 in
theorem ck_b180 : e2_run (e2_cal S_b180 I_b180 4000 2) (e2_fin rs_b180) e2x_181 (fun _ => false) (fun _ _ _ _ _ => false) 4000 (e2_seek e2x_181 0) (e2_al 2 as_b180) [] E_b180 f_b180 = true := by decide +kernel
set_option maxRecDepth 1000000 in
theorem co_b180 : e2_okSB E_b180.length as_b180 f_b180 rs_b180 = true := by decide +kernel
theorem cs_b180 (hen : en_ok) (l : Launch) : e2_smOk l 3 s_b180 := e2_con0 (H := 0) (n := 2) (C := evd_181) (S := S_b180) (I := I_b180) (fuel := 4000) [] hen ei_181 e2_fz (e2_fa ein_173 (e2_fa ein_174 (e2_fa ein_180 e2_fz))) (by decide) co_b180 ex2_181 ck_b180
/-! b181 X10_must -/
def as_b181 : List ev_V := [(2, 83, 0), (11, 2147483648, 2147483649)]
def E_b181 : e2_E := [(2147483648, 2147583648, 0, 0), (2147483648, 2147483656, 1, 0), (2147483648, 2147485249, 2, 0)]
noncomputable def f_b181 : ev_H := (bn1047 : e2_Q8)
noncomputable def q_b181_0 : ev_H := (bn1027 : e2_Q8)
noncomputable def q_b181_1 : ev_H := (bn939 : e2_Q8)
noncomputable def q_b181_2 : ev_H := (bn1019 : e2_Q8)
noncomputable def q_b181_3 : ev_H := (bn1011 : e2_Q8)
noncomputable def q_b181_4 : ev_H := (bn1003 : e2_Q8)
def bn1092 : e2_Q7 := (bn845, bn461)
def bn1093 : e2_Q8 := (bn733, bn1092)
noncomputable def q_b181_5 : ev_H := (bn1093 : e2_Q8)
noncomputable def rs_b181 : e2_Rs := [((9, 0, 0), q_b181_0), ((9, 0, 0), q_b181_1), ((9, 0, 0), q_b181_2), ((9, 0, 0), q_b181_3), ((9, 0, 0), q_b181_4), ((9, 0, 0), q_b181_5)]
noncomputable def s_b181 : e2_Sm := (181, as_b181, E_b181, f_b181, rs_b181)
noncomputable def S_b181 : List e2_Sm := [s_b176]
noncomputable def I_b181 : List e2_In := [(173, 3, e2x_173), (174, 1, e2x_174), (180, 1, e2x_180)]
set_option maxRecDepth 1000000 in
theorem ck_b181 : e2_run (e2_cal S_b181 I_b181 4000 2) (e2_fin rs_b181) e2x_181 (fun _ => false) (fun _ _ _ _ _ => false) 4000 (e2_seek e2x_181 0) (e2_al 2 as_b181) [] E_b181 f_b181 = true := by decide +kernel
set_option maxRecDepth 1000000 in
theorem co_b181 : e2_okSB E_b181.length as_b181 f_b181 rs_b181 = true := by decide +kernel
theorem cs_b181 (hen : en_ok) (l : Launch) : e2_smOk l 6 s_b181 := e2_con0 (H := 3) (n := 2) (C := evd_181) (S := S_b181) (I := I_b181) (fuel := 4000) [] hen ei_181 (e2_fa (cs_b176 hen l) e2_fz) (e2_fa ein_173 (e2_fa ein_174 (e2_fa ein_180 e2_fz))) (by decide) co_b181 ex2_181 ck_b181
/-! b182 X10_must -/
def as_b182 : List ev_V := [(2, 83, 0), (0, 0, 0)]
def E_b182 : e2_E := [(2147483648, 2147583648, 0, 0), (2147483648, 2147483656, 1, 0), (2147483648, 2147485249, 2, 0)]
def bn1094 : e2_Q7 := (bn736, bn965)
def bn1095 : e2_Q8 := (bn733, bn1094)
noncomputable def f_b182 : ev_H := (bn1095 : e2_Q8)
def bn1096 : e2_Q7 := (bn736, bn383)
def bn1097 : e2_Q8 := (bn733, bn1096)
noncomputable def q_b182_0 : ev_H := (bn1097 : e2_Q8)
noncomputable def rs_b182 : e2_Rs := [((9, 0, 0), q_b182_0)]
noncomputable def s_b182 : e2_Sm := (181, as_b182, E_b182, f_b182, rs_b182)
noncomputable def S_b182 : List e2_Sm := []
noncomputable def I_b182 : List e2_In := [(173, 3, e2x_173), (174, 1, e2x_174), (180, 1, e2x_180)]
set_option maxRecDepth 1000000 in
theorem ck_b182 : e2_run (e2_cal S_b182 I_b182 4000 2) (e2_fin rs_b182) e2x_181 (fun _ => false) (fun _ _ _ _ _ => false) 4000 (e2_seek e2x_181 0) (e2_al 2 as_b182) [] E_b182 f_b182 = true := by decide +kernel
set_option maxRecDepth 1000000 in
theorem co_b182 : e2_okSB E_b182.length as_b182 f_b182 rs_b182 = true := by decide +kernel
theorem cs_b182 (hen : en_ok) (l : Launch) : e2_smOk l 3 s_b182 := e2_con0 (H := 0) (n := 2) (C := evd_181) (S := S_b182) (I := I_b182) (fuel := 4000) [] hen ei_181 e2_fz (e2_fa ein_173 (e2_fa ein_174 (e2_fa ein_180 e2_fz))) (by decide) co_b182 ex2_181 ck_b182
/-! b183 X10_must -/
def as_b183 : List ev_V := [(2, 83, 0), (0, 0, 0)]
def E_b183 : e2_E := [(2147483648, 2147583648, 0, 0), (2147483648, 2147483656, 1, 0), (2147483648, 2147485249, 2, 0)]
def bn1098 : e2_Q7 := (bn736, bn447)
def bn1099 : e2_Q8 := (bn733, bn1098)
noncomputable def f_b183 : ev_H := (bn1099 : e2_Q8)
noncomputable def q_b183_0 : ev_H := (bn1085 : e2_Q8)
noncomputable def rs_b183 : e2_Rs := [((9, 0, 0), q_b183_0)]
noncomputable def s_b183 : e2_Sm := (181, as_b183, E_b183, f_b183, rs_b183)
noncomputable def S_b183 : List e2_Sm := []
noncomputable def I_b183 : List e2_In := [(173, 3, e2x_173), (174, 1, e2x_174), (180, 1, e2x_180)]
set_option maxRecDepth 1000000 in
theorem ck_b183 : e2_run (e2_cal S_b183 I_b183 4000 2) (e2_fin rs_b183) e2x_181 (fun _ => false) (fun _ _ _ _ _ => false) 4000 (e2_seek e2x_181 0) (e2_al 2 as_b183) [] E_b183 f_b183 = true := by decide +kernel
set_option maxRecDepth 1000000 in
theorem co_b183 : e2_okSB E_b183.length as_b183 f_b183 rs_b183 = true := by decide +kernel
theorem cs_b183 (hen : en_ok) (l : Launch) : e2_smOk l 3 s_b183 := e2_con0 (H := 0) (n := 2) (C := evd_181) (S := S_b183) (I := I_b183) (fuel := 4000) [] hen ei_181 e2_fz (e2_fa ein_173 (e2_fa ein_174 (e2_fa ein_180 e2_fz))) (by decide) co_b183 ex2_181 ck_b183
/-! b184 X10_must -/
def as_b184 : List ev_V := [(2, 83, 0), (11, 2147483648, 2147483649)]
def E_b184 : e2_E := [(2147483648, 2147583648, 0, 0), (2147483648, 2147483656, 1, 0), (2147483648, 2147485249, 2, 0)]
noncomputable def f_b184 : ev_H := (bn995 : e2_Q8)
noncomputable def q_b184_0 : ev_H := (bn1027 : e2_Q8)
noncomputable def q_b184_1 : ev_H := (bn939 : e2_Q8)
noncomputable def q_b184_2 : ev_H := (bn1019 : e2_Q8)
noncomputable def q_b184_3 : ev_H := (bn1011 : e2_Q8)
noncomputable def q_b184_4 : ev_H := (bn1003 : e2_Q8)
def bn1100 : e2_Q7 := (bn845, bn367)
def bn1101 : e2_Q8 := (bn733, bn1100)
noncomputable def q_b184_5 : ev_H := (bn1101 : e2_Q8)
noncomputable def rs_b184 : e2_Rs := [((9, 0, 0), q_b184_0), ((9, 0, 0), q_b184_1), ((9, 0, 0), q_b184_2), ((9, 0, 0), q_b184_3), ((9, 0, 0), q_b184_4), ((9, 0, 0), q_b184_5)]
noncomputable def s_b184 : e2_Sm := (181, as_b184, E_b184, f_b184, rs_b184)
noncomputable def S_b184 : List e2_Sm := [s_b175]
noncomputable def I_b184 : List e2_In := [(173, 3, e2x_173), (174, 1, e2x_174), (180, 1, e2x_180)]
set_option maxRecDepth 1000000 in
theorem ck_b184 : e2_run (e2_cal S_b184 I_b184 4000 2) (e2_fin rs_b184) e2x_181 (fun _ => false) (fun _ _ _ _ _ => false) 4000 (e2_seek e2x_181 0) (e2_al 2 as_b184) [] E_b184 f_b184 = true := by decide +kernel
set_option maxRecDepth 1000000 in
theorem co_b184 : e2_okSB E_b184.length as_b184 f_b184 rs_b184 = true := by decide +kernel
theorem cs_b184 (hen : en_ok) (l : Launch) : e2_smOk l 6 s_b184 := e2_con0 (H := 3) (n := 2) (C := evd_181) (S := S_b184) (I := I_b184) (fuel := 4000) [] hen ei_181 (e2_fa (cs_b175 hen l) e2_fz) (e2_fa ein_173 (e2_fa ein_174 (e2_fa ein_180 e2_fz))) (by decide) co_b184 ex2_181 ck_b184
/-! b185 X10_must -/
def as_b185 : List ev_V := [(2, 83, 0), (0, 0, 0)]
def E_b185 : e2_E := [(2147483648, 2147583648, 0, 0), (2147483648, 2147483656, 1, 0), (2147483648, 2147485249, 2, 0)]
noncomputable def f_b185 : ev_H := (bn1097 : e2_Q8)
noncomputable def q_b185_0 : ev_H := (bn1097 : e2_Q8)
noncomputable def rs_b185 : e2_Rs := [((9, 0, 0), q_b185_0)]
noncomputable def s_b185 : e2_Sm := (181, as_b185, E_b185, f_b185, rs_b185)
noncomputable def S_b185 : List e2_Sm := []
noncomputable def I_b185 : List e2_In := [(174, 1, e2x_174)]
set_option maxRecDepth 1000000 in
theorem ck_b185 : e2_run (e2_cal S_b185 I_b185 4000 1) (e2_fin rs_b185) e2x_181 (fun _ => false) (fun _ _ _ _ _ => false) 4000 (e2_seek e2x_181 0) (e2_al 2 as_b185) [] E_b185 f_b185 = true := by decide +kernel
set_option maxRecDepth 1000000 in
theorem co_b185 : e2_okSB E_b185.length as_b185 f_b185 rs_b185 = true := by decide +kernel
theorem cs_b185 (hen : en_ok) (l : Launch) : e2_smOk l 2 s_b185 := e2_con0 (H := 0) (n := 1) (C := evd_181) (S := S_b185) (I := I_b185) (fuel := 4000) [] hen ei_181 e2_fz (e2_fa ein_174 e2_fz) (by decide) co_b185 ex2_181 ck_b185
/-! b186 X10_must -/
def as_b186 : List ev_V := [(2, 83, 0), (11, 2147483648, 2147483649)]
def E_b186 : e2_E := [(2147483648, 2147583648, 0, 0), (2147483648, 2147483656, 1, 0), (2147483648, 2147485249, 2, 0)]
def bn1102 : e2_Q7 := (bn736, bn461)
def bn1103 : e2_Q8 := (bn733, bn1102)
noncomputable def f_b186 : ev_H := (bn1103 : e2_Q8)
noncomputable def q_b186_0 : ev_H := (bn1103 : e2_Q8)
noncomputable def rs_b186 : e2_Rs := [((9, 0, 0), q_b186_0)]
noncomputable def s_b186 : e2_Sm := (181, as_b186, E_b186, f_b186, rs_b186)
noncomputable def S_b186 : List e2_Sm := []
noncomputable def I_b186 : List e2_In := [(174, 1, e2x_174)]
set_option maxRecDepth 1000000 in
theorem ck_b186 : e2_run (e2_cal S_b186 I_b186 4000 1) (e2_fin rs_b186) e2x_181 (fun _ => false) (fun _ _ _ _ _ => false) 4000 (e2_seek e2x_181 0) (e2_al 2 as_b186) [] E_b186 f_b186 = true := by decide +kernel
set_option maxRecDepth 1000000 in
theorem co_b186 : e2_okSB E_b186.length as_b186 f_b186 rs_b186 = true := by decide +kernel
theorem cs_b186 (hen : en_ok) (l : Launch) : e2_smOk l 2 s_b186 := e2_con0 (H := 0) (n := 1) (C := evd_181) (S := S_b186) (I := I_b186) (fuel := 4000) [] hen ei_181 e2_fz (e2_fa ein_174 e2_fz) (by decide) co_b186 ex2_181 ck_b186
/-! b187 X10_must -/
def as_b187 : List ev_V := [(2, 83, 0), (0, 0, 0)]
def E_b187 : e2_E := [(2147483648, 2147583648, 0, 0), (2147483648, 2147483656, 1, 0), (2147483648, 2147485249, 2, 0)]
noncomputable def f_b187 : ev_H := (bn1091 : e2_Q8)
noncomputable def q_b187_0 : ev_H := (bn1091 : e2_Q8)
noncomputable def rs_b187 : e2_Rs := [((9, 0, 0), q_b187_0)]
noncomputable def s_b187 : e2_Sm := (181, as_b187, E_b187, f_b187, rs_b187)
noncomputable def S_b187 : List e2_Sm := []
noncomputable def I_b187 : List e2_In := [(174, 1, e2x_174)]
set_option maxRecDepth 1000000 in
theorem ck_b187 : e2_run (e2_cal S_b187 I_b187 4000 1) (e2_fin rs_b187) e2x_181 (fun _ => false) (fun _ _ _ _ _ => false) 4000 (e2_seek e2x_181 0) (e2_al 2 as_b187) [] E_b187 f_b187 = true := by decide +kernel
set_option maxRecDepth 1000000 in
theorem co_b187 : e2_okSB E_b187.length as_b187 f_b187 rs_b187 = true := by decide +kernel
theorem cs_b187 (hen : en_ok) (l : Launch) : e2_smOk l 2 s_b187 := e2_con0 (H := 0) (n := 1) (C := evd_181) (S := S_b187) (I := I_b187) (fuel := 4000) [] hen ei_181 e2_fz (e2_fa ein_174 e2_fz) (by decide) co_b187 ex2_181 ck_b187
/-! b188 X10_must -/
def as_b188 : List ev_V := [(2, 83, 0), (0, 0, 0)]
def E_b188 : e2_E := [(2147483648, 2147583648, 0, 0), (2147483648, 2147483656, 1, 0), (2147483648, 2147485249, 2, 0)]
def bn1104 : e2_Q7 := (bn736, bn451)
def bn1105 : e2_Q8 := (bn733, bn1104)
noncomputable def f_b188 : ev_H := (bn1105 : e2_Q8)
noncomputable def q_b188_0 : ev_H := (bn1105 : e2_Q8)
noncomputable def rs_b188 : e2_Rs := [((9, 0, 0), q_b188_0)]
noncomputable def s_b188 : e2_Sm := (181, as_b188, E_b188, f_b188, rs_b188)
noncomputable def S_b188 : List e2_Sm := []
noncomputable def I_b188 : List e2_In := [(174, 1, e2x_174)]
set_option maxRecDepth 1000000 in
theorem ck_b188 : e2_run (e2_cal S_b188 I_b188 4000 1) (e2_fin rs_b188) e2x_181 (fun _ => false) (fun _ _ _ _ _ => false) 4000 (e2_seek e2x_181 0) (e2_al 2 as_b188) [] E_b188 f_b188 = true := by decide +kernel
set_option maxRecDepth 1000000 in
theorem co_b188 : e2_okSB E_b188.length as_b188 f_b188 rs_b188 = true := by decide +kernel
theorem cs_b188 (hen : en_ok) (l : Launch) : e2_smOk l 2 s_b188 := e2_con0 (H := 0) (n := 1) (C := evd_181) (S := S_b188) (I := I_b188) (fuel := 4000) [] hen ei_181 e2_fz (e2_fa ein_174 e2_fz) (by decide) co_b188 ex2_181 ck_b188
/-! b189 X10_must -/
def as_b189 : List ev_V := [(2, 83, 0), (11, 2147483648, 2147483649)]
def E_b189 : e2_E := [(2147483648, 2147583648, 0, 0), (2147483648, 2147483656, 1, 0), (2147483648, 2147485249, 2, 0)]
def bc214 : ev_C := (10, [(0, 0, 0), (2, 88, 0), (2, 115, 0), (2, 114, 0), (2, 86, 0), (2, 112, 0), (11, 2147483648, 2147483688), (2, 118, 0), (2, 120, 0), (2, 131, 0), (2, 91, 0), (11, 2147483648, 2147483668), (2, 123, 0), (0, 1, 0), (11, 2147483648, 2147485248), (2, 87, 0), (2, 84, 0), (2, 122, 0), (2, 100, 0), (2, 132, 0), (11, 2147483648, 2147483668), (11, 2147483648, 2147485248), (1, 0, 4294967296), (11, 2147483649, 2147483653), (11, 2147483648, 2147485248), (2, 93, 0), (2, 104, 0), (11, 2147483648, 2147483678), (2, 89, 0), (2, 92, 0), (2, 119, 0), (2, 90, 0), (2, 94, 0), (2, 103, 0), (11, 2147483648, 2147483688), (11, 2147483648, 2147549184), (11, 0, 4294967295), (11, 2147483648, 2147485249), (0, 5, 0), (11, 2147483648, 2147483668), (2, 85, 0), (11, 0, 4294967295), (5, 0, 0), (2, 95, 0), (2, 96, 0), (2, 97, 0), (2, 98, 0), (2, 99, 0), (2, 101, 0), (2, 102, 0), (2, 105, 0), (2, 106, 0), (2, 107, 0), (2, 108, 0), (2, 109, 0), (2, 110, 0), (2, 111, 0), (11, 2147483648, 2147484768), (11, 2147482048, 2147483655), (11, 2147483648, 2147483738), (11, 2147483648, 2147483678), (11, 0, 4294967295), (11, 0, 4294967295), (11, 0, 4294967295), (11, 0, 4294967295), (11, 0, 4294967295), (2, 113, 0), (2, 116, 0), (2, 117, 0), (2, 121, 0), (11, 0, 4294967295), (11, 0, 4294967295), (2, 124, 0), (2, 125, 0), (11, 0, 4294967295), (2, 126, 0), (2, 127, 0), (2, 128, 0), (2, 129, 0), (2, 130, 0)])
def bn1106 : e2_Q1 := (bc214, bc3)
def bn1107 : e2_Q2 := (bn196, bn1106)
def bn1108 : e2_Q3 := (bn1107, bn201)
def bn1109 : e2_Q4 := (bn195, bn1108)
def bn1110 : e2_Q5 := (bn1109, bn365)
def bn1111 : e2_Q6 := (bn1110, bn250)
def bn1112 : e2_Q7 := (bn736, bn1111)
def bn1113 : e2_Q8 := (bn733, bn1112)
noncomputable def f_b189 : ev_H := (bn1113 : e2_Q8)
noncomputable def q_b189_0 : ev_H := (bn1113 : e2_Q8)
noncomputable def rs_b189 : e2_Rs := [((9, 0, 0), q_b189_0)]
noncomputable def s_b189 : e2_Sm := (181, as_b189, E_b189, f_b189, rs_b189)
noncomputable def S_b189 : List e2_Sm := []
noncomputable def I_b189 : List e2_In := [(174, 1, e2x_174)]
set_option maxRecDepth 1000000 in
theorem ck_b189 : e2_run (e2_cal S_b189 I_b189 4000 1) (e2_fin rs_b189) e2x_181 (fun _ => false) (fun _ _ _ _ _ => false) 4000 (e2_seek e2x_181 0) (e2_al 2 as_b189) [] E_b189 f_b189 = true := by decide +kernel
set_option maxRecDepth 1000000 in
theorem co_b189 : e2_okSB E_b189.length as_b189 f_b189 rs_b189 = true := by decide +kernel
theorem cs_b189 (hen : en_ok) (l : Launch) : e2_smOk l 2 s_b189 := e2_con0 (H := 0) (n := 1) (C := evd_181) (S := S_b189) (I := I_b189) (fuel := 4000) [] hen ei_181 e2_fz (e2_fa ein_174 e2_fz) (by decide) co_b189 ex2_181 ck_b189
/-! b190 X10_must -/
def as_b190 : List ev_V := [(2, 83, 0), (0, 0, 0)]
def E_b190 : e2_E := [(2147483648, 2147583648, 0, 0), (2147483648, 2147483656, 1, 0), (2147483648, 2147485249, 2, 0)]
def bn1114 : e2_Q5 := (bn273, bn365)
def bn1115 : e2_Q6 := (bn1114, bn250)
def bn1116 : e2_Q7 := (bn736, bn1115)
def bn1117 : e2_Q8 := (bn733, bn1116)
noncomputable def f_b190 : ev_H := (bn1117 : e2_Q8)
def bc215 : ev_C := (10, [(0, 0, 0), (2, 88, 0), (2, 115, 0), (2, 114, 0), (2, 86, 0), (2, 112, 0), (11, 2147483648, 2147483688), (2, 118, 0), (2, 120, 0), (2, 131, 0), (2, 91, 0), (11, 2147483648, 2147483668), (2, 123, 0), (0, 1, 0), (11, 2147483648, 2147485248), (2, 87, 0), (2, 84, 0), (2, 122, 0), (2, 100, 0), (2, 132, 0), (11, 2147483648, 2147483668), (11, 2147483648, 2147485248), (1, 0, 4294967296), (11, 2147483649, 2147483653), (13, 2, 2147485247), (2, 93, 0), (2, 104, 0), (11, 2147483648, 2147483678), (2, 89, 0), (2, 92, 0), (2, 119, 0), (2, 90, 0), (2, 94, 0), (2, 103, 0), (11, 2147483648, 2147483688), (11, 2147483648, 2147549184), (13, 2, 2147485247), (13, 10, 2147485249), (0, 4, 0), (11, 2147483648, 2147483668), (2, 85, 0), (11, 0, 4294967295), (5, 0, 0), (2, 95, 0), (2, 96, 0), (2, 97, 0), (2, 98, 0), (2, 99, 0), (2, 101, 0), (2, 102, 0), (2, 105, 0), (2, 106, 0), (2, 107, 0), (2, 108, 0), (2, 109, 0), (2, 110, 0), (2, 111, 0), (11, 2147483648, 2147484768), (11, 2147482048, 2147483655), (11, 2147483648, 2147483738), (11, 2147483648, 2147483678), (11, 0, 4294967295), (11, 0, 4294967295), (11, 0, 4294967295), (11, 0, 4294967295), (11, 0, 4294967295), (2, 113, 0), (2, 116, 0), (2, 117, 0), (2, 121, 0), (11, 0, 4294967295), (11, 0, 4294967295), (2, 124, 0), (2, 125, 0), (11, 0, 4294967295), (2, 126, 0), (2, 127, 0), (2, 128, 0), (2, 129, 0), (2, 130, 0)])
def bn1118 : e2_Q1 := (bc215, bc3)
def bn1119 : e2_Q2 := (bn196, bn1118)
def bn1120 : e2_Q3 := (bn1119, bn201)
def bn1121 : e2_Q4 := (bn195, bn1120)
def bn1122 : e2_Q5 := (bn1121, bn365)
def bn1123 : e2_Q6 := (bn1122, bn250)
def bn1124 : e2_Q7 := (bn736, bn1123)
def bn1125 : e2_Q8 := (bn733, bn1124)
noncomputable def q_b190_0 : ev_H := (bn1125 : e2_Q8)
noncomputable def rs_b190 : e2_Rs := [((9, 0, 0), q_b190_0)]
noncomputable def s_b190 : e2_Sm := (181, as_b190, E_b190, f_b190, rs_b190)
noncomputable def S_b190 : List e2_Sm := []
noncomputable def I_b190 : List e2_In := [(173, 3, e2x_173), (174, 1, e2x_174), (180, 1, e2x_180)]
set_option maxRecDepth 1000000 in
theorem ck_b190 : e2_run (e2_cal S_b190 I_b190 4000 2) (e2_fin rs_b190) e2x_181 (fun _ => false) (fun _ _ _ _ _ => false) 4000 (e2_seek e2x_181 0) (e2_al 2 as_b190) [] E_b190 f_b190 = true := by decide +kernel
set_option maxRecDepth 1000000 in
theorem co_b190 : e2_okSB E_b190.length as_b190 f_b190 rs_b190 = true := by decide +kernel
theorem cs_b190 (hen : en_ok) (l : Launch) : e2_smOk l 3 s_b190 := e2_con0 (H := 0) (n := 2) (C := evd_181) (S := S_b190) (I := I_b190) (fuel := 4000) [] hen ei_181 e2_fz (e2_fa ein_173 (e2_fa ein_174 (e2_fa ein_180 e2_fz))) (by decide) co_b190 ex2_181 ck_b190
/-! b191 X10_must -/
def as_b191 : List ev_V := [(2, 83, 0), (0, 0, 0)]
def E_b191 : e2_E := [(2147483648, 2147583648, 0, 0), (2147483648, 2147483656, 1, 0), (2147483648, 2147485249, 2, 0)]
def bn1126 : e2_Q5 := (bn289, bn365)
def bn1127 : e2_Q6 := (bn1126, bn250)
def bn1128 : e2_Q7 := (bn736, bn1127)
def bn1129 : e2_Q8 := (bn733, bn1128)
noncomputable def f_b191 : ev_H := (bn1129 : e2_Q8)
def bc216 : ev_C := (10, [(0, 0, 0), (2, 88, 0), (2, 115, 0), (2, 114, 0), (2, 86, 0), (2, 112, 0), (11, 2147483648, 2147483688), (2, 118, 0), (2, 120, 0), (2, 131, 0), (2, 91, 0), (11, 2147483648, 2147483668), (2, 123, 0), (0, 1, 0), (11, 2147483648, 2147485248), (2, 87, 0), (2, 84, 0), (2, 122, 0), (2, 100, 0), (2, 132, 0), (11, 2147483648, 2147483668), (11, 2147483648, 2147485248), (1, 0, 4294967296), (11, 2147483649, 2147483653), (13, 2, 2147485247), (2, 93, 0), (2, 104, 0), (11, 2147483648, 2147483678), (2, 89, 0), (2, 92, 0), (2, 119, 0), (2, 90, 0), (2, 94, 0), (2, 103, 0), (11, 2147483648, 2147483688), (11, 2147483648, 2147549184), (13, 2, 2147485247), (13, 10, 2147485249), (0, 1, 0), (11, 2147483648, 2147483668), (2, 85, 0), (11, 0, 4294967295), (5, 0, 0), (2, 95, 0), (2, 96, 0), (2, 97, 0), (2, 98, 0), (2, 99, 0), (2, 101, 0), (2, 102, 0), (2, 105, 0), (2, 106, 0), (2, 107, 0), (2, 108, 0), (2, 109, 0), (2, 110, 0), (2, 111, 0), (11, 2147483648, 2147484768), (11, 2147482048, 2147483655), (11, 2147483648, 2147483738), (11, 2147483648, 2147483678), (11, 0, 4294967295), (11, 0, 4294967295), (11, 0, 4294967295), (11, 0, 4294967295), (11, 0, 4294967295), (2, 113, 0), (2, 116, 0), (2, 117, 0), (2, 121, 0), (11, 0, 4294967295), (11, 0, 4294967295), (2, 124, 0), (2, 125, 0), (11, 0, 4294967295), (2, 126, 0), (2, 127, 0), (2, 128, 0), (2, 129, 0), (2, 130, 0)])
def bn1130 : e2_Q1 := (bc216, bc3)
def bn1131 : e2_Q2 := (bn196, bn1130)
def bn1132 : e2_Q3 := (bn1131, bn201)
def bn1133 : e2_Q4 := (bn195, bn1132)
def bn1134 : e2_Q5 := (bn1133, bn365)
def bn1135 : e2_Q6 := (bn1134, bn250)
def bn1136 : e2_Q7 := (bn736, bn1135)
def bn1137 : e2_Q8 := (bn733, bn1136)
noncomputable def q_b191_0 : ev_H := (bn1137 : e2_Q8)
noncomputable def rs_b191 : e2_Rs := [((9, 0, 0), q_b191_0)]
noncomputable def s_b191 : e2_Sm := (181, as_b191, E_b191, f_b191, rs_b191)
noncomputable def S_b191 : List e2_Sm := []
noncomputable def I_b191 : List e2_In := [(173, 3, e2x_173), (174, 1, e2x_174), (180, 1, e2x_180)]
set_option maxRecDepth 1000000 in
theorem ck_b191 : e2_run (e2_cal S_b191 I_b191 4000 2) (e2_fin rs_b191) e2x_181 (fun _ => false) (fun _ _ _ _ _ => false) 4000 (e2_seek e2x_181 0) (e2_al 2 as_b191) [] E_b191 f_b191 = true := by decide +kernel
set_option maxRecDepth 1000000 in
theorem co_b191 : e2_okSB E_b191.length as_b191 f_b191 rs_b191 = true := by decide +kernel
theorem cs_b191 (hen : en_ok) (l : Launch) : e2_smOk l 3 s_b191 := e2_con0 (H := 0) (n := 2) (C := evd_181) (S := S_b191) (I := I_b191) (fuel := 4000) [] hen ei_181 e2_fz (e2_fa ein_173 (e2_fa ein_174 (e2_fa ein_180 e2_fz))) (by decide) co_b191 ex2_181 ck_b191
/-! b192 X10_must -/
def as_b192 : List ev_V := [(2, 83, 0), (11, 2147483648, 2147483649)]
def E_b192 : e2_E := [(2147483648, 2147583648, 0, 0), (2147483648, 2147483656, 1, 0), (2147483648, 2147485249, 2, 0)]
def bc217 : ev_C := (10, [(0, 0, 0), (2, 88, 0), (2, 115, 0), (2, 114, 0), (2, 86, 0), (2, 112, 0), (11, 2147483648, 2147483688), (2, 118, 0), (2, 120, 0), (2, 131, 0), (2, 91, 0), (11, 2147483648, 2147483668), (2, 123, 0), (0, 1, 0), (11, 2147483648, 2147485248), (2, 87, 0), (2, 84, 0), (2, 122, 0), (2, 100, 0), (2, 132, 0), (11, 2147483648, 2147483668), (11, 2147483648, 2147485248), (1, 0, 4294967296), (11, 2147483649, 2147483653), (11, 2147483648, 2147485248), (2, 93, 0), (2, 104, 0), (11, 2147483648, 2147483678), (2, 89, 0), (2, 92, 0), (2, 119, 0), (2, 90, 0), (2, 94, 0), (2, 103, 0), (11, 2147483648, 2147483688), (11, 2147483648, 2147549184), (11, 0, 4294967295), (11, 2147483648, 2147485249), (11, 2147483650, 2147483651), (11, 2147483648, 2147483668), (2, 85, 0), (11, 0, 4294967295), (5, 0, 0), (2, 95, 0), (2, 96, 0), (2, 97, 0), (2, 98, 0), (2, 99, 0), (2, 101, 0), (2, 102, 0), (2, 105, 0), (2, 106, 0), (2, 107, 0), (2, 108, 0), (2, 109, 0), (2, 110, 0), (2, 111, 0), (11, 2147483648, 2147484768), (11, 2147482048, 2147483655), (11, 2147483648, 2147483738), (11, 2147483648, 2147483678), (11, 0, 4294967295), (11, 0, 4294967295), (11, 0, 4294967295), (11, 0, 4294967295), (11, 0, 4294967295), (2, 113, 0), (2, 116, 0), (2, 117, 0), (2, 121, 0), (11, 0, 4294967295), (11, 0, 4294967295), (2, 124, 0), (2, 125, 0), (11, 0, 4294967295), (2, 126, 0), (2, 127, 0), (2, 128, 0), (2, 129, 0), (2, 130, 0)])
def bn1138 : e2_Q1 := (bc217, bc3)
def bn1139 : e2_Q2 := (bn196, bn1138)
def bn1140 : e2_Q3 := (bn1139, bn201)
def bn1141 : e2_Q4 := (bn195, bn1140)
def bn1142 : e2_Q5 := (bn1141, bn365)
def bn1143 : e2_Q6 := (bn1142, bn250)
def bn1144 : e2_Q7 := (bn736, bn1143)
def bn1145 : e2_Q8 := (bn733, bn1144)
noncomputable def f_b192 : ev_H := (bn1145 : e2_Q8)
noncomputable def q_b192_0 : ev_H := (bn1145 : e2_Q8)
noncomputable def rs_b192 : e2_Rs := [((9, 0, 0), q_b192_0)]
noncomputable def s_b192 : e2_Sm := (181, as_b192, E_b192, f_b192, rs_b192)
noncomputable def S_b192 : List e2_Sm := []
noncomputable def I_b192 : List e2_In := [(174, 1, e2x_174)]
set_option maxRecDepth 1000000 in
theorem ck_b192 : e2_run (e2_cal S_b192 I_b192 4000 1) (e2_fin rs_b192) e2x_181 (fun _ => false) (fun _ _ _ _ _ => false) 4000 (e2_seek e2x_181 0) (e2_al 2 as_b192) [] E_b192 f_b192 = true := by decide +kernel
set_option maxRecDepth 1000000 in
theorem co_b192 : e2_okSB E_b192.length as_b192 f_b192 rs_b192 = true := by decide +kernel
theorem cs_b192 (hen : en_ok) (l : Launch) : e2_smOk l 2 s_b192 := e2_con0 (H := 0) (n := 1) (C := evd_181) (S := S_b192) (I := I_b192) (fuel := 4000) [] hen ei_181 e2_fz (e2_fa ein_174 e2_fz) (by decide) co_b192 ex2_181 ck_b192
/-! b193 X10_must -/
def as_b193 : List ev_V := [(2, 83, 0), (0, 0, 0)]
def E_b193 : e2_E := [(2147483648, 2147583648, 0, 0), (2147483648, 2147483656, 1, 0), (2147483648, 2147485249, 2, 0)]
noncomputable def f_b193 : ev_H := (bn1125 : e2_Q8)
noncomputable def q_b193_0 : ev_H := (bn1125 : e2_Q8)
noncomputable def rs_b193 : e2_Rs := [((9, 0, 0), q_b193_0)]
noncomputable def s_b193 : e2_Sm := (181, as_b193, E_b193, f_b193, rs_b193)
noncomputable def S_b193 : List e2_Sm := []
noncomputable def I_b193 : List e2_In := [(174, 1, e2x_174)]
set_option maxRecDepth 1000000 in
theorem ck_b193 : e2_run (e2_cal S_b193 I_b193 4000 1) (e2_fin rs_b193) e2x_181 (fun _ => false) (fun _ _ _ _ _ => false) 4000 (e2_seek e2x_181 0) (e2_al 2 as_b193) [] E_b193 f_b193 = true := by decide +kernel
set_option maxRecDepth 1000000 in
theorem co_b193 : e2_okSB E_b193.length as_b193 f_b193 rs_b193 = true := by decide +kernel
theorem cs_b193 (hen : en_ok) (l : Launch) : e2_smOk l 2 s_b193 := e2_con0 (H := 0) (n := 1) (C := evd_181) (S := S_b193) (I := I_b193) (fuel := 4000) [] hen ei_181 e2_fz (e2_fa ein_174 e2_fz) (by decide) co_b193 ex2_181 ck_b193
/-! b194 X10_must -/
def as_b194 : List ev_V := [(2, 83, 0), (0, 0, 0)]
def E_b194 : e2_E := [(2147483648, 2147583648, 0, 0), (2147483648, 2147483656, 1, 0), (2147483648, 2147485249, 2, 0)]
noncomputable def f_b194 : ev_H := (bn1137 : e2_Q8)
noncomputable def q_b194_0 : ev_H := (bn1137 : e2_Q8)
noncomputable def rs_b194 : e2_Rs := [((9, 0, 0), q_b194_0)]
noncomputable def s_b194 : e2_Sm := (181, as_b194, E_b194, f_b194, rs_b194)
noncomputable def S_b194 : List e2_Sm := []
noncomputable def I_b194 : List e2_In := [(174, 1, e2x_174)]
set_option maxRecDepth 1000000 in
theorem ck_b194 : e2_run (e2_cal S_b194 I_b194 4000 1) (e2_fin rs_b194) e2x_181 (fun _ => false) (fun _ _ _ _ _ => false) 4000 (e2_seek e2x_181 0) (e2_al 2 as_b194) [] E_b194 f_b194 = true := by decide +kernel
set_option maxRecDepth 1000000 in
theorem co_b194 : e2_okSB E_b194.length as_b194 f_b194 rs_b194 = true := by decide +kernel
theorem cs_b194 (hen : en_ok) (l : Launch) : e2_smOk l 2 s_b194 := e2_con0 (H := 0) (n := 1) (C := evd_181) (S := S_b194) (I := I_b194) (fuel := 4000) [] hen ei_181 e2_fz (e2_fa ein_174 e2_fz) (by decide) co_b194 ex2_181 ck_b194
/-! b195 X10_numeral -/
def as_b195 : List ev_V := [(2, 83, 0), (0, 0, 0), (0, 999, 0)]
def E_b195 : e2_E := [(2147483648, 2147583648, 0, 0), (2147483648, 2147483656, 1, 0), (2147483648, 2147485249, 2, 0)]
def bn1146 : e2_Q7 := (bn736, bn993)
def bn1147 : e2_Q8 := (bn733, bn1146)
noncomputable def f_b195 : ev_H := (bn1147 : e2_Q8)
noncomputable def q_b195_0 : ev_H := (bn1083 : e2_Q8)
noncomputable def rs_b195 : e2_Rs := [((0, 0, 0), q_b195_0)]
noncomputable def s_b195 : e2_Sm := (182, as_b195, E_b195, f_b195, rs_b195)
noncomputable def S_b195 : List e2_Sm := []
noncomputable def I_b195 : List e2_In := [(173, 3, e2x_173), (174, 1, e2x_174), (180, 1, e2x_180)]
set_option maxRecDepth 1000000 in
theorem ck_b195 : e2_run (e2_cal S_b195 I_b195 4000 2) (e2_fin rs_b195) e2x_182 (fun _ => false) (fun _ _ _ _ _ => false) 4000 (e2_seek e2x_182 0) (e2_al 4 as_b195) [] E_b195 f_b195 = true := by decide +kernel
set_option maxRecDepth 1000000 in
theorem co_b195 : e2_okSB E_b195.length as_b195 f_b195 rs_b195 = true := by decide +kernel
theorem cs_b195 (hen : en_ok) (l : Launch) : e2_smOk l 3 s_b195 := e2_con0 (H := 0) (n := 2) (C := evd_182) (S := S_b195) (I := I_b195) (fuel := 4000) [] hen ei_182 e2_fz (e2_fa ein_173 (e2_fa ein_174 (e2_fa ein_180 e2_fz))) (by decide) co_b195 ex2_182 ck_b195
/-! b196 X10_numeral -/
def as_b196 : List ev_V := [(2, 83, 0), (0, 0, 0), (0, 999, 0)]
def E_b196 : e2_E := [(2147483648, 2147583648, 0, 0), (2147483648, 2147483656, 1, 0), (2147483648, 2147485249, 2, 0)]
noncomputable def f_b196 : ev_H := (bn1099 : e2_Q8)
noncomputable def q_b196_0 : ev_H := (bn1085 : e2_Q8)
noncomputable def rs_b196 : e2_Rs := [((0, 0, 0), q_b196_0)]
noncomputable def s_b196 : e2_Sm := (182, as_b196, E_b196, f_b196, rs_b196)
noncomputable def S_b196 : List e2_Sm := []
noncomputable def I_b196 : List e2_In := [(173, 3, e2x_173), (174, 1, e2x_174), (180, 1, e2x_180)]
set_option maxRecDepth 1000000 in
theorem ck_b196 : e2_run (e2_cal S_b196 I_b196 4000 2) (e2_fin rs_b196) e2x_182 (fun _ => false) (fun _ _ _ _ _ => false) 4000 (e2_seek e2x_182 0) (e2_al 4 as_b196) [] E_b196 f_b196 = true := by decide +kernel
set_option maxRecDepth 1000000 in
theorem co_b196 : e2_okSB E_b196.length as_b196 f_b196 rs_b196 = true := by decide +kernel
theorem cs_b196 (hen : en_ok) (l : Launch) : e2_smOk l 3 s_b196 := e2_con0 (H := 0) (n := 2) (C := evd_182) (S := S_b196) (I := I_b196) (fuel := 4000) [] hen ei_182 e2_fz (e2_fa ein_173 (e2_fa ein_174 (e2_fa ein_180 e2_fz))) (by decide) co_b196 ex2_182 ck_b196
/-! b197 X10_numeral -/
def as_b197 : List ev_V := [(2, 83, 0), (0, 0, 0), (0, 999, 0)]
def E_b197 : e2_E := [(2147483648, 2147583648, 0, 0), (2147483648, 2147483656, 1, 0), (2147483648, 2147485249, 2, 0)]
noncomputable def f_b197 : ev_H := (bn967 : e2_Q8)
def bn1148 : e2_Q7 := (bn845, bn383)
def bn1149 : e2_Q8 := (bn733, bn1148)
noncomputable def q_b197_0 : ev_H := (bn1149 : e2_Q8)
noncomputable def q_b197_1 : ev_H := (bn947 : e2_Q8)
noncomputable def q_b197_2 : ev_H := (bn939 : e2_Q8)
noncomputable def q_b197_3 : ev_H := (bn931 : e2_Q8)
noncomputable def q_b197_4 : ev_H := (bn923 : e2_Q8)
noncomputable def q_b197_5 : ev_H := (bn915 : e2_Q8)
noncomputable def rs_b197 : e2_Rs := [((0, 0, 0), q_b197_0), ((11, 2147483648, 2147484647), q_b197_1), ((11, 2147483648, 2147484647), q_b197_2), ((11, 2147483648, 2147484647), q_b197_3), ((11, 2147483648, 2147484647), q_b197_4), ((11, 2147483648, 2147484647), q_b197_5)]
noncomputable def s_b197 : e2_Sm := (182, as_b197, E_b197, f_b197, rs_b197)
noncomputable def S_b197 : List e2_Sm := [s_b174]
noncomputable def I_b197 : List e2_In := [(173, 3, e2x_173), (174, 1, e2x_174)]
set_option maxRecDepth 1000000 in
theorem ck_b197 : e2_run (e2_cal S_b197 I_b197 4000 1) (e2_fin rs_b197) e2x_182 (fun _ => false) (fun _ _ _ _ _ => false) 4000 (e2_seek e2x_182 0) (e2_al 4 as_b197) [] E_b197 f_b197 = true := by decide +kernel
set_option maxRecDepth 1000000 in
theorem co_b197 : e2_okSB E_b197.length as_b197 f_b197 rs_b197 = true := by decide +kernel
theorem cs_b197 (hen : en_ok) (l : Launch) : e2_smOk l 5 s_b197 := e2_con0 (H := 3) (n := 1) (C := evd_182) (S := S_b197) (I := I_b197) (fuel := 4000) [] hen ei_182 (e2_fa (cs_b174 hen l) e2_fz) (e2_fa ein_173 (e2_fa ein_174 e2_fz)) (by decide) co_b197 ex2_182 ck_b197
/-! b198 X10_numeral -/
def as_b198 : List ev_V := [(2, 83, 0), (0, 0, 0), (0, 999, 0)]
def E_b198 : e2_E := [(2147483648, 2147583648, 0, 0), (2147483648, 2147483656, 1, 0), (2147483648, 2147485249, 2, 0)]
def bn1150 : e2_Q7 := (bn736, bn1045)
def bn1151 : e2_Q8 := (bn733, bn1150)
noncomputable def f_b198 : ev_H := (bn1151 : e2_Q8)
noncomputable def q_b198_0 : ev_H := (bn1103 : e2_Q8)
noncomputable def rs_b198 : e2_Rs := [((0, 0, 0), q_b198_0)]
noncomputable def s_b198 : e2_Sm := (182, as_b198, E_b198, f_b198, rs_b198)
noncomputable def S_b198 : List e2_Sm := []
noncomputable def I_b198 : List e2_In := [(173, 3, e2x_173), (174, 1, e2x_174), (180, 1, e2x_180)]
set_option maxRecDepth 1000000 in
theorem ck_b198 : e2_run (e2_cal S_b198 I_b198 4000 2) (e2_fin rs_b198) e2x_182 (fun _ => false) (fun _ _ _ _ _ => false) 4000 (e2_seek e2x_182 0) (e2_al 4 as_b198) [] E_b198 f_b198 = true := by decide +kernel
set_option maxRecDepth 1000000 in
theorem co_b198 : e2_okSB E_b198.length as_b198 f_b198 rs_b198 = true := by decide +kernel
theorem cs_b198 (hen : en_ok) (l : Launch) : e2_smOk l 3 s_b198 := e2_con0 (H := 0) (n := 2) (C := evd_182) (S := S_b198) (I := I_b198) (fuel := 4000) [] hen ei_182 e2_fz (e2_fa ein_173 (e2_fa ein_174 (e2_fa ein_180 e2_fz))) (by decide) co_b198 ex2_182 ck_b198
/-! b199 X10_numeral -/
def as_b199 : List ev_V := [(2, 83, 0), (0, 0, 0), (0, 999, 0)]
def E_b199 : e2_E := [(2147483648, 2147583648, 0, 0), (2147483648, 2147483656, 1, 0), (2147483648, 2147485249, 2, 0)]
noncomputable def f_b199 : ev_H := (bn1089 : e2_Q8)
noncomputable def q_b199_0 : ev_H := (bn1091 : e2_Q8)
noncomputable def rs_b199 : e2_Rs := [((0, 0, 0), q_b199_0)]
noncomputable def s_b199 : e2_Sm := (182, as_b199, E_b199, f_b199, rs_b199)
noncomputable def S_b199 : List e2_Sm := []
noncomputable def I_b199 : List e2_In := [(173, 3, e2x_173), (174, 1, e2x_174), (180, 1, e2x_180)]
set_option maxRecDepth 1000000 in
theorem ck_b199 : e2_run (e2_cal S_b199 I_b199 4000 2) (e2_fin rs_b199) e2x_182 (fun _ => false) (fun _ _ _ _ _ => false) 4000 (e2_seek e2x_182 0) (e2_al 4 as_b199) [] E_b199 f_b199 = true := by decide +kernel
set_option maxRecDepth 1000000 in
theorem co_b199 : e2_okSB E_b199.length as_b199 f_b199 rs_b199 = true := by decide +kernel
theorem cs_b199 (hen : en_ok) (l : Launch) : e2_smOk l 3 s_b199 := e2_con0 (H := 0) (n := 2) (C := evd_182) (S := S_b199) (I := I_b199) (fuel := 4000) [] hen ei_182 e2_fz (e2_fa ein_173 (e2_fa ein_174 (e2_fa ein_180 e2_fz))) (by decide) co_b199 ex2_182 ck_b199
/-! b200 X10_numeral -/
def as_b200 : List ev_V := [(2, 83, 0), (0, 0, 0), (11, 2147483651, 2147483667)]
def E_b200 : e2_E := [(2147483648, 2147583648, 0, 0), (2147483648, 2147483656, 1, 0), (2147483648, 2147485249, 2, 0)]
noncomputable def f_b200 : ev_H := (bn1147 : e2_Q8)
noncomputable def q_b200_0 : ev_H := (bn1083 : e2_Q8)
noncomputable def rs_b200 : e2_Rs := [((0, 0, 0), q_b200_0)]
noncomputable def s_b200 : e2_Sm := (182, as_b200, E_b200, f_b200, rs_b200)
noncomputable def S_b200 : List e2_Sm := []
noncomputable def I_b200 : List e2_In := [(173, 3, e2x_173), (174, 1, e2x_174), (180, 1, e2x_180)]
set_option maxRecDepth 1000000 in
theorem ck_b200 : e2_run (e2_cal S_b200 I_b200 4000 2) (e2_fin rs_b200) e2x_182 (fun _ => false) (fun _ _ _ _ _ => false) 4000 (e2_seek e2x_182 0) (e2_al 4 as_b200) [] E_b200 f_b200 = true := by decide +kernel
set_option maxRecDepth 1000000 in
theorem co_b200 : e2_okSB E_b200.length as_b200 f_b200 rs_b200 = true := by decide +kernel
theorem cs_b200 (hen : en_ok) (l : Launch) : e2_smOk l 3 s_b200 := e2_con0 (H := 0) (n := 2) (C := evd_182) (S := S_b200) (I := I_b200) (fuel := 4000) [] hen ei_182 e2_fz (e2_fa ein_173 (e2_fa ein_174 (e2_fa ein_180 e2_fz))) (by decide) co_b200 ex2_182 ck_b200
/-! b201 X10_numeral -/
def as_b201 : List ev_V := [(2, 83, 0), (0, 0, 0), (11, 2147483651, 2147483667)]
def E_b201 : e2_E := [(2147483648, 2147583648, 0, 0), (2147483648, 2147483656, 1, 0), (2147483648, 2147485249, 2, 0)]
noncomputable def f_b201 : ev_H := (bn1099 : e2_Q8)
noncomputable def q_b201_0 : ev_H := (bn1085 : e2_Q8)
noncomputable def rs_b201 : e2_Rs := [((0, 0, 0), q_b201_0)]
noncomputable def s_b201 : e2_Sm := (182, as_b201, E_b201, f_b201, rs_b201)
noncomputable def S_b201 : List e2_Sm := []
noncomputable def I_b201 : List e2_In := [(173, 3, e2x_173), (174, 1, e2x_174), (180, 1, e2x_180)]
set_option maxRecDepth 1000000 in
theorem ck_b201 : e2_run (e2_cal S_b201 I_b201 4000 2) (e2_fin rs_b201) e2x_182 (fun _ => false) (fun _ _ _ _ _ => false) 4000 (e2_seek e2x_182 0) (e2_al 4 as_b201) [] E_b201 f_b201 = true := by decide +kernel
set_option maxRecDepth 1000000 in
theorem co_b201 : e2_okSB E_b201.length as_b201 f_b201 rs_b201 = true := by decide +kernel
theorem cs_b201 (hen : en_ok) (l : Launch) : e2_smOk l 3 s_b201 := e2_con0 (H := 0) (n := 2) (C := evd_182) (S := S_b201) (I := I_b201) (fuel := 4000) [] hen ei_182 e2_fz (e2_fa ein_173 (e2_fa ein_174 (e2_fa ein_180 e2_fz))) (by decide) co_b201 ex2_182 ck_b201
/-! b202 X10_numeral -/
def as_b202 : List ev_V := [(2, 83, 0), (0, 0, 0), (11, 2147483651, 2147483667)]
def E_b202 : e2_E := [(2147483648, 2147583648, 0, 0), (2147483648, 2147483656, 1, 0), (2147483648, 2147485249, 2, 0)]
noncomputable def f_b202 : ev_H := (bn967 : e2_Q8)
noncomputable def q_b202_0 : ev_H := (bn1149 : e2_Q8)
noncomputable def q_b202_1 : ev_H := (bn947 : e2_Q8)
noncomputable def q_b202_2 : ev_H := (bn939 : e2_Q8)
noncomputable def q_b202_3 : ev_H := (bn931 : e2_Q8)
noncomputable def q_b202_4 : ev_H := (bn923 : e2_Q8)
noncomputable def q_b202_5 : ev_H := (bn915 : e2_Q8)
noncomputable def rs_b202 : e2_Rs := [((0, 0, 0), q_b202_0), ((11, 2147483648, 2147483667), q_b202_1), ((11, 2147483648, 2147483667), q_b202_2), ((11, 2147483648, 2147483667), q_b202_3), ((11, 2147483648, 2147483667), q_b202_4), ((11, 2147483648, 2147483667), q_b202_5)]
noncomputable def s_b202 : e2_Sm := (182, as_b202, E_b202, f_b202, rs_b202)
noncomputable def S_b202 : List e2_Sm := [s_b174]
noncomputable def I_b202 : List e2_In := [(173, 3, e2x_173), (174, 1, e2x_174)]
set_option maxRecDepth 1000000 in
theorem ck_b202 : e2_run (e2_cal S_b202 I_b202 4000 1) (e2_fin rs_b202) e2x_182 (fun _ => false) (fun _ _ _ _ _ => false) 4000 (e2_seek e2x_182 0) (e2_al 4 as_b202) [] E_b202 f_b202 = true := by decide +kernel
set_option maxRecDepth 1000000 in
theorem co_b202 : e2_okSB E_b202.length as_b202 f_b202 rs_b202 = true := by decide +kernel
theorem cs_b202 (hen : en_ok) (l : Launch) : e2_smOk l 5 s_b202 := e2_con0 (H := 3) (n := 1) (C := evd_182) (S := S_b202) (I := I_b202) (fuel := 4000) [] hen ei_182 (e2_fa (cs_b174 hen l) e2_fz) (e2_fa ein_173 (e2_fa ein_174 e2_fz)) (by decide) co_b202 ex2_182 ck_b202
/-! b203 X10_numeral -/
def as_b203 : List ev_V := [(2, 83, 0), (0, 0, 0), (11, 2147483651, 2147483667)]
def E_b203 : e2_E := [(2147483648, 2147583648, 0, 0), (2147483648, 2147483656, 1, 0), (2147483648, 2147485249, 2, 0)]
noncomputable def f_b203 : ev_H := (bn1151 : e2_Q8)
noncomputable def q_b203_0 : ev_H := (bn1103 : e2_Q8)
noncomputable def rs_b203 : e2_Rs := [((0, 0, 0), q_b203_0)]
noncomputable def s_b203 : e2_Sm := (182, as_b203, E_b203, f_b203, rs_b203)
noncomputable def S_b203 : List e2_Sm := []
noncomputable def I_b203 : List e2_In := [(173, 3, e2x_173), (174, 1, e2x_174), (180, 1, e2x_180)]
set_option maxRecDepth 1000000 in
theorem ck_b203 : e2_run (e2_cal S_b203 I_b203 4000 2) (e2_fin rs_b203) e2x_182 (fun _ => false) (fun _ _ _ _ _ => false) 4000 (e2_seek e2x_182 0) (e2_al 4 as_b203) [] E_b203 f_b203 = true := by decide +kernel
set_option maxRecDepth 1000000 in
theorem co_b203 : e2_okSB E_b203.length as_b203 f_b203 rs_b203 = true := by decide +kernel
theorem cs_b203 (hen : en_ok) (l : Launch) : e2_smOk l 3 s_b203 := e2_con0 (H := 0) (n := 2) (C := evd_182) (S := S_b203) (I := I_b203) (fuel := 4000) [] hen ei_182 e2_fz (e2_fa ein_173 (e2_fa ein_174 (e2_fa ein_180 e2_fz))) (by decide) co_b203 ex2_182 ck_b203
/-! b204 X10_numeral -/
def as_b204 : List ev_V := [(2, 83, 0), (0, 0, 0), (11, 2147483651, 2147483667)]
def E_b204 : e2_E := [(2147483648, 2147583648, 0, 0), (2147483648, 2147483656, 1, 0), (2147483648, 2147485249, 2, 0)]
noncomputable def f_b204 : ev_H := (bn1089 : e2_Q8)
noncomputable def q_b204_0 : ev_H := (bn1091 : e2_Q8)
noncomputable def rs_b204 : e2_Rs := [((0, 0, 0), q_b204_0)]
noncomputable def s_b204 : e2_Sm := (182, as_b204, E_b204, f_b204, rs_b204)
noncomputable def S_b204 : List e2_Sm := []
noncomputable def I_b204 : List e2_In := [(173, 3, e2x_173), (174, 1, e2x_174), (180, 1, e2x_180)]
set_option maxRecDepth 1000000 in
theorem ck_b204 : e2_run (e2_cal S_b204 I_b204 4000 2) (e2_fin rs_b204) e2x_182 (fun _ => false) (fun _ _ _ _ _ => false) 4000 (e2_seek e2x_182 0) (e2_al 4 as_b204) [] E_b204 f_b204 = true := by decide +kernel
set_option maxRecDepth 1000000 in
theorem co_b204 : e2_okSB E_b204.length as_b204 f_b204 rs_b204 = true := by decide +kernel
theorem cs_b204 (hen : en_ok) (l : Launch) : e2_smOk l 3 s_b204 := e2_con0 (H := 0) (n := 2) (C := evd_182) (S := S_b204) (I := I_b204) (fuel := 4000) [] hen ei_182 e2_fz (e2_fa ein_173 (e2_fa ein_174 (e2_fa ein_180 e2_fz))) (by decide) co_b204 ex2_182 ck_b204
/-! b205 X10_numeral -/
def as_b205 : List ev_V := [(2, 83, 0), (0, 0, 0), (0, 99, 0)]
def E_b205 : e2_E := [(2147483648, 2147583648, 0, 0), (2147483648, 2147483656, 1, 0), (2147483648, 2147485249, 2, 0)]
noncomputable def f_b205 : ev_H := (bn1083 : e2_Q8)
noncomputable def q_b205_0 : ev_H := (bn1083 : e2_Q8)
noncomputable def rs_b205 : e2_Rs := [((0, 0, 0), q_b205_0)]
noncomputable def s_b205 : e2_Sm := (182, as_b205, E_b205, f_b205, rs_b205)
noncomputable def S_b205 : List e2_Sm := []
noncomputable def I_b205 : List e2_In := [(174, 1, e2x_174)]
set_option maxRecDepth 1000000 in
theorem ck_b205 : e2_run (e2_cal S_b205 I_b205 4000 1) (e2_fin rs_b205) e2x_182 (fun _ => false) (fun _ _ _ _ _ => false) 4000 (e2_seek e2x_182 0) (e2_al 4 as_b205) [] E_b205 f_b205 = true := by decide +kernel
set_option maxRecDepth 1000000 in
theorem co_b205 : e2_okSB E_b205.length as_b205 f_b205 rs_b205 = true := by decide +kernel
theorem cs_b205 (hen : en_ok) (l : Launch) : e2_smOk l 2 s_b205 := e2_con0 (H := 0) (n := 1) (C := evd_182) (S := S_b205) (I := I_b205) (fuel := 4000) [] hen ei_182 e2_fz (e2_fa ein_174 e2_fz) (by decide) co_b205 ex2_182 ck_b205
/-! b206 X10_numeral -/
def as_b206 : List ev_V := [(2, 83, 0), (0, 0, 0), (0, 99, 0)]
def E_b206 : e2_E := [(2147483648, 2147583648, 0, 0), (2147483648, 2147483656, 1, 0), (2147483648, 2147485249, 2, 0)]
noncomputable def f_b206 : ev_H := (bn1085 : e2_Q8)
noncomputable def q_b206_0 : ev_H := (bn1085 : e2_Q8)
noncomputable def rs_b206 : e2_Rs := [((0, 0, 0), q_b206_0)]
noncomputable def s_b206 : e2_Sm := (182, as_b206, E_b206, f_b206, rs_b206)
noncomputable def S_b206 : List e2_Sm := []
noncomputable def I_b206 : List e2_In := [(174, 1, e2x_174)]
set_option maxRecDepth 1000000 in
theorem ck_b206 : e2_run (e2_cal S_b206 I_b206 4000 1) (e2_fin rs_b206) e2x_182 (fun _ => false) (fun _ _ _ _ _ => false) 4000 (e2_seek e2x_182 0) (e2_al 4 as_b206) [] E_b206 f_b206 = true := by decide +kernel
set_option maxRecDepth 1000000 in
theorem co_b206 : e2_okSB E_b206.length as_b206 f_b206 rs_b206 = true := by decide +kernel
theorem cs_b206 (hen : en_ok) (l : Launch) : e2_smOk l 2 s_b206 := e2_con0 (H := 0) (n := 1) (C := evd_182) (S := S_b206) (I := I_b206) (fuel := 4000) [] hen ei_182 e2_fz (e2_fa ein_174 e2_fz) (by decide) co_b206 ex2_182 ck_b206
/-! b207 X10_numeral -/
def as_b207 : List ev_V := [(2, 83, 0), (0, 0, 0), (0, 99, 0)]
def E_b207 : e2_E := [(2147483648, 2147583648, 0, 0), (2147483648, 2147483656, 1, 0), (2147483648, 2147485249, 2, 0)]
noncomputable def f_b207 : ev_H := (bn1097 : e2_Q8)
noncomputable def q_b207_0 : ev_H := (bn1097 : e2_Q8)
noncomputable def rs_b207 : e2_Rs := [((0, 0, 0), q_b207_0)]
noncomputable def s_b207 : e2_Sm := (182, as_b207, E_b207, f_b207, rs_b207)
noncomputable def S_b207 : List e2_Sm := []
noncomputable def I_b207 : List e2_In := [(174, 1, e2x_174)]
set_option maxRecDepth 1000000 in
theorem ck_b207 : e2_run (e2_cal S_b207 I_b207 4000 1) (e2_fin rs_b207) e2x_182 (fun _ => false) (fun _ _ _ _ _ => false) 4000 (e2_seek e2x_182 0) (e2_al 4 as_b207) [] E_b207 f_b207 = true := by decide +kernel
set_option maxRecDepth 1000000 in
theorem co_b207 : e2_okSB E_b207.length as_b207 f_b207 rs_b207 = true := by decide +kernel
theorem cs_b207 (hen : en_ok) (l : Launch) : e2_smOk l 2 s_b207 := e2_con0 (H := 0) (n := 1) (C := evd_182) (S := S_b207) (I := I_b207) (fuel := 4000) [] hen ei_182 e2_fz (e2_fa ein_174 e2_fz) (by decide) co_b207 ex2_182 ck_b207
/-! b208 X10_numeral -/
def as_b208 : List ev_V := [(2, 83, 0), (0, 0, 0), (0, 99, 0)]
def E_b208 : e2_E := [(2147483648, 2147583648, 0, 0), (2147483648, 2147483656, 1, 0), (2147483648, 2147485249, 2, 0)]
noncomputable def f_b208 : ev_H := (bn1137 : e2_Q8)
noncomputable def q_b208_0 : ev_H := (bn1137 : e2_Q8)
noncomputable def rs_b208 : e2_Rs := [((0, 0, 0), q_b208_0)]
noncomputable def s_b208 : e2_Sm := (182, as_b208, E_b208, f_b208, rs_b208)
noncomputable def S_b208 : List e2_Sm := []
noncomputable def I_b208 : List e2_In := [(174, 1, e2x_174)]
set_option maxRecDepth 1000000 in
theorem ck_b208 : e2_run (e2_cal S_b208 I_b208 4000 1) (e2_fin rs_b208) e2x_182 (fun _ => false) (fun _ _ _ _ _ => false) 4000 (e2_seek e2x_182 0) (e2_al 4 as_b208) [] E_b208 f_b208 = true := by decide +kernel
set_option maxRecDepth 1000000 in
theorem co_b208 : e2_okSB E_b208.length as_b208 f_b208 rs_b208 = true := by decide +kernel
theorem cs_b208 (hen : en_ok) (l : Launch) : e2_smOk l 2 s_b208 := e2_con0 (H := 0) (n := 1) (C := evd_182) (S := S_b208) (I := I_b208) (fuel := 4000) [] hen ei_182 e2_fz (e2_fa ein_174 e2_fz) (by decide) co_b208 ex2_182 ck_b208
/-! b209 X10_numeral -/
def as_b209 : List ev_V := [(2, 83, 0), (0, 0, 0), (0, 99, 0)]
def E_b209 : e2_E := [(2147483648, 2147583648, 0, 0), (2147483648, 2147483656, 1, 0), (2147483648, 2147485249, 2, 0)]
noncomputable def f_b209 : ev_H := (bn1103 : e2_Q8)
noncomputable def q_b209_0 : ev_H := (bn1103 : e2_Q8)
noncomputable def rs_b209 : e2_Rs := [((0, 0, 0), q_b209_0)]
noncomputable def s_b209 : e2_Sm := (182, as_b209, E_b209, f_b209, rs_b209)
noncomputable def S_b209 : List e2_Sm := []
noncomputable def I_b209 : List e2_In := [(174, 1, e2x_174)]
set_option maxRecDepth 1000000 in
theorem ck_b209 : e2_run (e2_cal S_b209 I_b209 4000 1) (e2_fin rs_b209) e2x_182 (fun _ => false) (fun _ _ _ _ _ => false) 4000 (e2_seek e2x_182 0) (e2_al 4 as_b209) [] E_b209 f_b209 = true := by decide +kernel
set_option maxRecDepth 1000000 in
theorem co_b209 : e2_okSB E_b209.length as_b209 f_b209 rs_b209 = true := by decide +kernel
theorem cs_b209 (hen : en_ok) (l : Launch) : e2_smOk l 2 s_b209 := e2_con0 (H := 0) (n := 1) (C := evd_182) (S := S_b209) (I := I_b209) (fuel := 4000) [] hen ei_182 e2_fz (e2_fa ein_174 e2_fz) (by decide) co_b209 ex2_182 ck_b209
/-! b210 X10_numeral -/
def as_b210 : List ev_V := [(2, 83, 0), (0, 0, 0), (0, 99, 0)]
def E_b210 : e2_E := [(2147483648, 2147583648, 0, 0), (2147483648, 2147483656, 1, 0), (2147483648, 2147485249, 2, 0)]
def bn1152 : e2_Q7 := (bn736, bn391)
def bn1153 : e2_Q8 := (bn733, bn1152)
noncomputable def f_b210 : ev_H := (bn1153 : e2_Q8)
def bc218 : ev_C := (10, [(0, 0, 0), (2, 88, 0), (2, 115, 0), (2, 114, 0), (2, 86, 0), (2, 112, 0), (11, 2147483648, 2147483688), (2, 118, 0), (2, 120, 0), (2, 131, 0), (2, 91, 0), (11, 2147483648, 2147483668), (2, 123, 0), (0, 1, 0), (11, 2147483648, 2147485248), (2, 87, 0), (2, 84, 0), (2, 122, 0), (2, 100, 0), (2, 132, 0), (11, 2147483648, 2147483668), (11, 2147483648, 2147485248), (1, 0, 4294967296), (11, 2147483649, 2147483653), (13, 10, 2147485247), (2, 93, 0), (2, 104, 0), (11, 2147483648, 2147483678), (2, 89, 0), (2, 92, 0), (2, 119, 0), (2, 90, 0), (2, 94, 0), (2, 103, 0), (11, 2147483648, 2147483688), (11, 2147483648, 2147549184), (13, 10, 2147485247), (13, 10, 2147485249), (0, 1, 0), (11, 2147483648, 2147483668), (2, 85, 0), (11, 0, 4294967295), (5, 0, 0), (2, 95, 0), (2, 96, 0), (2, 97, 0), (2, 98, 0), (2, 99, 0), (2, 101, 0), (2, 102, 0), (2, 105, 0), (2, 106, 0), (2, 107, 0), (2, 108, 0), (2, 109, 0), (2, 110, 0), (2, 111, 0), (11, 2147483648, 2147484768), (11, 2147482048, 2147483655), (11, 2147483648, 2147483738), (11, 2147483648, 2147483678), (11, 0, 4294967295), (11, 0, 4294967295), (11, 0, 4294967295), (11, 0, 4294967295), (11, 0, 4294967295), (2, 113, 0), (2, 116, 0), (2, 117, 0), (2, 121, 0), (11, 0, 4294967295), (11, 0, 4294967295), (2, 124, 0), (2, 125, 0), (11, 0, 4294967295), (2, 126, 0), (2, 127, 0), (2, 128, 0), (2, 129, 0), (2, 130, 0)])
def bn1154 : e2_Q1 := (bc218, bc3)
def bn1155 : e2_Q2 := (bn196, bn1154)
def bn1156 : e2_Q3 := (bn1155, bn201)
def bn1157 : e2_Q4 := (bn195, bn1156)
def bn1158 : e2_Q5 := (bn1157, bn365)
def bn1159 : e2_Q6 := (bn1158, bn250)
def bn1160 : e2_Q7 := (bn736, bn1159)
def bn1161 : e2_Q8 := (bn733, bn1160)
noncomputable def q_b210_0 : ev_H := (bn1161 : e2_Q8)
noncomputable def rs_b210 : e2_Rs := [((0, 0, 0), q_b210_0)]
noncomputable def s_b210 : e2_Sm := (182, as_b210, E_b210, f_b210, rs_b210)
noncomputable def S_b210 : List e2_Sm := []
noncomputable def I_b210 : List e2_In := [(173, 3, e2x_173), (174, 1, e2x_174), (180, 1, e2x_180)]
set_option maxRecDepth 1000000 in
theorem ck_b210 : e2_run (e2_cal S_b210 I_b210 4000 2) (e2_fin rs_b210) e2x_182 (fun _ => false) (fun _ _ _ _ _ => false) 4000 (e2_seek e2x_182 0) (e2_al 4 as_b210) [] E_b210 f_b210 = true := by decide +kernel
set_option maxRecDepth 1000000 in
theorem co_b210 : e2_okSB E_b210.length as_b210 f_b210 rs_b210 = true := by decide +kernel
theorem cs_b210 (hen : en_ok) (l : Launch) : e2_smOk l 3 s_b210 := e2_con0 (H := 0) (n := 2) (C := evd_182) (S := S_b210) (I := I_b210) (fuel := 4000) [] hen ei_182 e2_fz (e2_fa ein_173 (e2_fa ein_174 (e2_fa ein_180 e2_fz))) (by decide) co_b210 ex2_182 ck_b210
/-! b211 X10_numeral -/
def as_b211 : List ev_V := [(2, 83, 0), (0, 0, 0), (0, 99, 0)]
def E_b211 : e2_E := [(2147483648, 2147583648, 0, 0), (2147483648, 2147483656, 1, 0), (2147483648, 2147485249, 2, 0)]
def bn1162 : e2_Q7 := (bn736, bn437)
def bn1163 : e2_Q8 := (bn733, bn1162)
noncomputable def f_b211 : ev_H := (bn1163 : e2_Q8)
def bc219 : ev_C := (10, [(0, 0, 0), (2, 88, 0), (2, 115, 0), (2, 114, 0), (2, 86, 0), (2, 112, 0), (11, 2147483648, 2147483688), (2, 118, 0), (2, 120, 0), (2, 131, 0), (2, 91, 0), (11, 2147483648, 2147483668), (2, 123, 0), (0, 1, 0), (11, 2147483648, 2147485248), (2, 87, 0), (2, 84, 0), (2, 122, 0), (2, 100, 0), (2, 132, 0), (11, 2147483648, 2147483668), (11, 2147483648, 2147485248), (1, 0, 4294967296), (11, 2147483649, 2147483653), (13, 10, 2147485247), (2, 93, 0), (2, 104, 0), (11, 2147483648, 2147483678), (2, 89, 0), (2, 92, 0), (2, 119, 0), (2, 90, 0), (2, 94, 0), (2, 103, 0), (11, 2147483648, 2147483688), (11, 2147483648, 2147549184), (13, 10, 2147485247), (13, 10, 2147485249), (11, 2147483650, 2147483651), (11, 2147483648, 2147483668), (2, 85, 0), (11, 0, 4294967295), (5, 0, 0), (2, 95, 0), (2, 96, 0), (2, 97, 0), (2, 98, 0), (2, 99, 0), (2, 101, 0), (2, 102, 0), (2, 105, 0), (2, 106, 0), (2, 107, 0), (2, 108, 0), (2, 109, 0), (2, 110, 0), (2, 111, 0), (11, 2147483648, 2147484768), (11, 2147482048, 2147483655), (11, 2147483648, 2147483738), (11, 2147483648, 2147483678), (11, 0, 4294967295), (11, 0, 4294967295), (11, 0, 4294967295), (11, 0, 4294967295), (11, 0, 4294967295), (2, 113, 0), (2, 116, 0), (2, 117, 0), (2, 121, 0), (11, 0, 4294967295), (11, 0, 4294967295), (2, 124, 0), (2, 125, 0), (11, 0, 4294967295), (2, 126, 0), (2, 127, 0), (2, 128, 0), (2, 129, 0), (2, 130, 0)])
def bn1164 : e2_Q1 := (bc219, bc3)
def bn1165 : e2_Q2 := (bn196, bn1164)
def bn1166 : e2_Q3 := (bn1165, bn201)
def bn1167 : e2_Q4 := (bn195, bn1166)
def bn1168 : e2_Q5 := (bn1167, bn365)
def bn1169 : e2_Q6 := (bn1168, bn250)
def bn1170 : e2_Q7 := (bn736, bn1169)
def bn1171 : e2_Q8 := (bn733, bn1170)
noncomputable def q_b211_0 : ev_H := (bn1171 : e2_Q8)
noncomputable def rs_b211 : e2_Rs := [((0, 0, 0), q_b211_0)]
noncomputable def s_b211 : e2_Sm := (182, as_b211, E_b211, f_b211, rs_b211)
noncomputable def S_b211 : List e2_Sm := []
noncomputable def I_b211 : List e2_In := [(173, 3, e2x_173), (174, 1, e2x_174), (180, 1, e2x_180)]
set_option maxRecDepth 1000000 in
theorem ck_b211 : e2_run (e2_cal S_b211 I_b211 4000 2) (e2_fin rs_b211) e2x_182 (fun _ => false) (fun _ _ _ _ _ => false) 4000 (e2_seek e2x_182 0) (e2_al 4 as_b211) [] E_b211 f_b211 = true := by decide +kernel
set_option maxRecDepth 1000000 in
theorem co_b211 : e2_okSB E_b211.length as_b211 f_b211 rs_b211 = true := by decide +kernel
theorem cs_b211 (hen : en_ok) (l : Launch) : e2_smOk l 3 s_b211 := e2_con0 (H := 0) (n := 2) (C := evd_182) (S := S_b211) (I := I_b211) (fuel := 4000) [] hen ei_182 e2_fz (e2_fa ein_173 (e2_fa ein_174 (e2_fa ein_180 e2_fz))) (by decide) co_b211 ex2_182 ck_b211
/-! b212 X10_numeral -/
def as_b212 : List ev_V := [(2, 83, 0), (0, 0, 0), (0, 99, 0)]
def E_b212 : e2_E := [(2147483648, 2147583648, 0, 0), (2147483648, 2147483656, 1, 0), (2147483648, 2147485249, 2, 0)]
noncomputable def f_b212 : ev_H := (bn1065 : e2_Q8)
def bc220 : ev_C := (10, [(0, 0, 0), (2, 88, 0), (2, 115, 0), (2, 114, 0), (2, 86, 0), (2, 112, 0), (11, 2147483648, 2147483688), (2, 118, 0), (2, 120, 0), (2, 131, 0), (2, 91, 0), (11, 2147483648, 2147483668), (2, 123, 0), (0, 1, 0), (11, 2147483648, 2147485248), (2, 87, 0), (2, 84, 0), (2, 122, 0), (2, 100, 0), (2, 132, 0), (11, 2147483648, 2147483668), (11, 2147483648, 2147485248), (1, 0, 4294967296), (11, 2147483649, 2147483653), (13, 10, 2147485247), (2, 93, 0), (2, 104, 0), (11, 2147483648, 2147483678), (2, 89, 0), (2, 92, 0), (2, 119, 0), (2, 90, 0), (2, 94, 0), (2, 103, 0), (11, 2147483648, 2147483688), (11, 2147483648, 2147549184), (13, 10, 2147485247), (13, 10, 2147485249), (0, 4, 0), (11, 2147483648, 2147483668), (2, 85, 0), (11, 0, 4294967295), (5, 0, 0), (2, 95, 0), (2, 96, 0), (2, 97, 0), (2, 98, 0), (2, 99, 0), (2, 101, 0), (2, 102, 0), (2, 105, 0), (2, 106, 0), (2, 107, 0), (2, 108, 0), (2, 109, 0), (2, 110, 0), (2, 111, 0), (11, 2147483648, 2147484768), (11, 2147482048, 2147483655), (11, 2147483648, 2147483738), (11, 2147483648, 2147483678), (11, 0, 4294967295), (11, 0, 4294967295), (11, 0, 4294967295), (11, 0, 4294967295), (11, 0, 4294967295), (2, 113, 0), (2, 116, 0), (2, 117, 0), (2, 121, 0), (11, 0, 4294967295), (11, 0, 4294967295), (2, 124, 0), (2, 125, 0), (11, 0, 4294967295), (2, 126, 0), (2, 127, 0), (2, 128, 0), (2, 129, 0), (2, 130, 0)])
def bn1172 : e2_Q1 := (bc220, bc3)
def bn1173 : e2_Q2 := (bn196, bn1172)
def bn1174 : e2_Q3 := (bn1173, bn201)
def bn1175 : e2_Q4 := (bn195, bn1174)
def bn1176 : e2_Q5 := (bn1175, bn365)
def bn1177 : e2_Q6 := (bn1176, bn250)
def bn1178 : e2_Q7 := (bn845, bn1177)
def bn1179 : e2_Q8 := (bn733, bn1178)
noncomputable def q_b212_0 : ev_H := (bn1179 : e2_Q8)
noncomputable def q_b212_1 : ev_H := (bn1027 : e2_Q8)
noncomputable def q_b212_2 : ev_H := (bn939 : e2_Q8)
noncomputable def q_b212_3 : ev_H := (bn1019 : e2_Q8)
noncomputable def q_b212_4 : ev_H := (bn1011 : e2_Q8)
noncomputable def q_b212_5 : ev_H := (bn1003 : e2_Q8)
noncomputable def rs_b212 : e2_Rs := [((0, 0, 0), q_b212_0), ((11, 2147483648, 2147483747), q_b212_1), ((11, 2147483648, 2147483747), q_b212_2), ((11, 2147483648, 2147483747), q_b212_3), ((11, 2147483648, 2147483747), q_b212_4), ((11, 2147483648, 2147483747), q_b212_5)]
noncomputable def s_b212 : e2_Sm := (182, as_b212, E_b212, f_b212, rs_b212)
noncomputable def S_b212 : List e2_Sm := [s_b177]
noncomputable def I_b212 : List e2_In := [(173, 3, e2x_173), (174, 1, e2x_174)]
set_option maxRecDepth 1000000 in
theorem ck_b212 : e2_run (e2_cal S_b212 I_b212 4000 1) (e2_fin rs_b212) e2x_182 (fun _ => false) (fun _ _ _ _ _ => false) 4000 (e2_seek e2x_182 0) (e2_al 4 as_b212) [] E_b212 f_b212 = true := by decide +kernel
set_option maxRecDepth 1000000 in
theorem co_b212 : e2_okSB E_b212.length as_b212 f_b212 rs_b212 = true := by decide +kernel
theorem cs_b212 (hen : en_ok) (l : Launch) : e2_smOk l 5 s_b212 := e2_con0 (H := 3) (n := 1) (C := evd_182) (S := S_b212) (I := I_b212) (fuel := 4000) [] hen ei_182 (e2_fa (cs_b177 hen l) e2_fz) (e2_fa ein_173 (e2_fa ein_174 e2_fz)) (by decide) co_b212 ex2_182 ck_b212
/-! b213 X10_numeral -/
def as_b213 : List ev_V := [(2, 83, 0), (0, 0, 0), (0, 99, 0)]
def E_b213 : e2_E := [(2147483648, 2147583648, 0, 0), (2147483648, 2147483656, 1, 0), (2147483648, 2147485249, 2, 0)]
noncomputable def f_b213 : ev_H := (bn1099 : e2_Q8)
noncomputable def q_b213_0 : ev_H := (bn1085 : e2_Q8)
noncomputable def rs_b213 : e2_Rs := [((0, 0, 0), q_b213_0)]
noncomputable def s_b213 : e2_Sm := (182, as_b213, E_b213, f_b213, rs_b213)
noncomputable def S_b213 : List e2_Sm := []
noncomputable def I_b213 : List e2_In := [(173, 3, e2x_173), (174, 1, e2x_174), (180, 1, e2x_180)]
set_option maxRecDepth 1000000 in
theorem ck_b213 : e2_run (e2_cal S_b213 I_b213 4000 2) (e2_fin rs_b213) e2x_182 (fun _ => false) (fun _ _ _ _ _ => false) 4000 (e2_seek e2x_182 0) (e2_al 4 as_b213) [] E_b213 f_b213 = true := by decide +kernel
set_option maxRecDepth 1000000 in
theorem co_b213 : e2_okSB E_b213.length as_b213 f_b213 rs_b213 = true := by decide +kernel
theorem cs_b213 (hen : en_ok) (l : Launch) : e2_smOk l 3 s_b213 := e2_con0 (H := 0) (n := 2) (C := evd_182) (S := S_b213) (I := I_b213) (fuel := 4000) [] hen ei_182 e2_fz (e2_fa ein_173 (e2_fa ein_174 (e2_fa ein_180 e2_fz))) (by decide) co_b213 ex2_182 ck_b213
/-! b214 X10_numeral -/
def as_b214 : List ev_V := [(2, 83, 0), (0, 0, 0), (0, 99, 0)]
def E_b214 : e2_E := [(2147483648, 2147583648, 0, 0), (2147483648, 2147483656, 1, 0), (2147483648, 2147485249, 2, 0)]
def bn1180 : e2_Q7 := (bn736, bn429)
def bn1181 : e2_Q8 := (bn733, bn1180)
noncomputable def f_b214 : ev_H := (bn1181 : e2_Q8)
def bc221 : ev_C := (10, [(0, 0, 0), (2, 88, 0), (2, 115, 0), (2, 114, 0), (2, 86, 0), (2, 112, 0), (11, 2147483648, 2147483688), (2, 118, 0), (2, 120, 0), (2, 131, 0), (2, 91, 0), (11, 2147483648, 2147483668), (2, 123, 0), (0, 1, 0), (11, 2147483648, 2147485248), (2, 87, 0), (2, 84, 0), (2, 122, 0), (2, 100, 0), (2, 132, 0), (11, 2147483648, 2147483668), (11, 2147483648, 2147485248), (1, 0, 4294967296), (11, 2147483649, 2147483653), (13, 10, 2147485247), (2, 93, 0), (2, 104, 0), (11, 2147483648, 2147483678), (2, 89, 0), (2, 92, 0), (2, 119, 0), (2, 90, 0), (2, 94, 0), (2, 103, 0), (11, 2147483648, 2147483688), (11, 2147483648, 2147549184), (13, 10, 2147485247), (13, 10, 2147485249), (0, 5, 0), (11, 2147483648, 2147483668), (2, 85, 0), (11, 0, 4294967295), (5, 0, 0), (2, 95, 0), (2, 96, 0), (2, 97, 0), (2, 98, 0), (2, 99, 0), (2, 101, 0), (2, 102, 0), (2, 105, 0), (2, 106, 0), (2, 107, 0), (2, 108, 0), (2, 109, 0), (2, 110, 0), (2, 111, 0), (11, 2147483648, 2147484768), (11, 2147482048, 2147483655), (11, 2147483648, 2147483738), (11, 2147483648, 2147483678), (11, 0, 4294967295), (11, 0, 4294967295), (11, 0, 4294967295), (11, 0, 4294967295), (11, 0, 4294967295), (2, 113, 0), (2, 116, 0), (2, 117, 0), (2, 121, 0), (11, 0, 4294967295), (11, 0, 4294967295), (2, 124, 0), (2, 125, 0), (11, 0, 4294967295), (2, 126, 0), (2, 127, 0), (2, 128, 0), (2, 129, 0), (2, 130, 0)])
def bn1182 : e2_Q1 := (bc221, bc3)
def bn1183 : e2_Q2 := (bn196, bn1182)
def bn1184 : e2_Q3 := (bn1183, bn201)
def bn1185 : e2_Q4 := (bn195, bn1184)
def bn1186 : e2_Q5 := (bn1185, bn365)
def bn1187 : e2_Q6 := (bn1186, bn250)
def bn1188 : e2_Q7 := (bn736, bn1187)
def bn1189 : e2_Q8 := (bn733, bn1188)
noncomputable def q_b214_0 : ev_H := (bn1189 : e2_Q8)
noncomputable def rs_b214 : e2_Rs := [((0, 0, 0), q_b214_0)]
noncomputable def s_b214 : e2_Sm := (182, as_b214, E_b214, f_b214, rs_b214)
noncomputable def S_b214 : List e2_Sm := []
noncomputable def I_b214 : List e2_In := [(173, 3, e2x_173), (174, 1, e2x_174), (180, 1, e2x_180)]
set_option maxRecDepth 1000000 in
theorem ck_b214 : e2_run (e2_cal S_b214 I_b214 4000 2) (e2_fin rs_b214) e2x_182 (fun _ => false) (fun _ _ _ _ _ => false) 4000 (e2_seek e2x_182 0) (e2_al 4 as_b214) [] E_b214 f_b214 = true := by decide +kernel
set_option maxRecDepth 1000000 in
theorem co_b214 : e2_okSB E_b214.length as_b214 f_b214 rs_b214 = true := by decide +kernel
theorem cs_b214 (hen : en_ok) (l : Launch) : e2_smOk l 3 s_b214 := e2_con0 (H := 0) (n := 2) (C := evd_182) (S := S_b214) (I := I_b214) (fuel := 4000) [] hen ei_182 e2_fz (e2_fa ein_173 (e2_fa ein_174 (e2_fa ein_180 e2_fz))) (by decide) co_b214 ex2_182 ck_b214
