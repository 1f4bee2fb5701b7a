/-! CONTRACTS b, printed by a program -/
/-! b215 X10_numeral -/
def as_b215 : List ev_V := [(2, 83, 0), (0, 0, 0), (0, 99, 0)]
def E_b215 : e2_E := [(2147483648, 2147583648, 0, 0), (2147483648, 2147483656, 1, 0), (2147483648, 2147485249, 2, 0)]
noncomputable def f_b215 : ev_H := (bn1125 : e2_Q8)
noncomputable def q_b215_0 : ev_H := (bn1125 : e2_Q8)
noncomputable def rs_b215 : e2_Rs := [((0, 0, 0), q_b215_0)]
noncomputable def s_b215 : e2_Sm := (182, as_b215, E_b215, f_b215, rs_b215)
noncomputable def S_b215 : List e2_Sm := []
noncomputable def I_b215 : List e2_In := [(174, 1, e2x_174)]
set_option maxRecDepth 1000000 in
theorem ck_b215 : e2_run (e2_cal S_b215 I_b215 4000 1) (e2_fin rs_b215) e2x_182 (fun _ => false) (fun _ _ _ _ _ => false) 4000 (e2_seek e2x_182 0) (e2_al 4 as_b215) [] E_b215 f_b215 = true := by decide +kernel
set_option maxRecDepth 1000000 in
theorem co_b215 : e2_okSB E_b215.length as_b215 f_b215 rs_b215 = true := by decide +kernel
theorem cs_b215 (hen : en_ok) (l : Launch) : e2_smOk l 2 s_b215 := e2_con0 (H := 0) (n := 1) (C := evd_182) (S := S_b215) (I := I_b215) (fuel := 4000) [] hen ei_182 e2_fz (e2_fa ein_174 e2_fz) (by decide) co_b215 ex2_182 ck_b215
/-! b216 X10_numeral -/
def as_b216 : List ev_V := [(2, 83, 0), (0, 0, 0), (0, 99, 0)]
def E_b216 : e2_E := [(2147483648, 2147583648, 0, 0), (2147483648, 2147483656, 1, 0), (2147483648, 2147485249, 2, 0)]
noncomputable def f_b216 : ev_H := (bn1091 : e2_Q8)
noncomputable def q_b216_0 : ev_H := (bn1091 : e2_Q8)
noncomputable def rs_b216 : e2_Rs := [((0, 0, 0), q_b216_0)]
noncomputable def s_b216 : e2_Sm := (182, as_b216, E_b216, f_b216, rs_b216)
noncomputable def S_b216 : List e2_Sm := []
noncomputable def I_b216 : List e2_In := [(174, 1, e2x_174)]
set_option maxRecDepth 1000000 in
theorem ck_b216 : e2_run (e2_cal S_b216 I_b216 4000 1) (e2_fin rs_b216) e2x_182 (fun _ => false) (fun _ _ _ _ _ => false) 4000 (e2_seek e2x_182 0) (e2_al 4 as_b216) [] E_b216 f_b216 = true := by decide +kernel
set_option maxRecDepth 1000000 in
theorem co_b216 : e2_okSB E_b216.length as_b216 f_b216 rs_b216 = true := by decide +kernel
theorem cs_b216 (hen : en_ok) (l : Launch) : e2_smOk l 2 s_b216 := e2_con0 (H := 0) (n := 1) (C := evd_182) (S := S_b216) (I := I_b216) (fuel := 4000) [] hen ei_182 e2_fz (e2_fa ein_174 e2_fz) (by decide) co_b216 ex2_182 ck_b216
/-! b217 X10_numeral -/
def as_b217 : List ev_V := [(2, 83, 0), (0, 4, 0), (0, 20, 0)]
def E_b217 : e2_E := [(2147483648, 2147583648, 0, 0), (2147483648, 2147483656, 1, 0), (2147483648, 2147485249, 2, 0)]
noncomputable def f_b217 : ev_H := (bn1147 : e2_Q8)
noncomputable def q_b217_0 : ev_H := (bn1083 : e2_Q8)
noncomputable def rs_b217 : e2_Rs := [((0, 4, 0), q_b217_0)]
noncomputable def s_b217 : e2_Sm := (182, as_b217, E_b217, f_b217, rs_b217)
noncomputable def S_b217 : List e2_Sm := []
noncomputable def I_b217 : List e2_In := [(173, 3, e2x_173), (174, 1, e2x_174), (180, 1, e2x_180)]
set_option maxRecDepth 1000000 in
theorem ck_b217 : e2_run (e2_cal S_b217 I_b217 4000 2) (e2_fin rs_b217) e2x_182 (fun _ => false) (fun _ _ _ _ _ => false) 4000 (e2_seek e2x_182 0) (e2_al 4 as_b217) [] E_b217 f_b217 = true := by decide +kernel
set_option maxRecDepth 1000000 in
theorem co_b217 : e2_okSB E_b217.length as_b217 f_b217 rs_b217 = true := by decide +kernel
theorem cs_b217 (hen : en_ok) (l : Launch) : e2_smOk l 3 s_b217 := e2_con0 (H := 0) (n := 2) (C := evd_182) (S := S_b217) (I := I_b217) (fuel := 4000) [] hen ei_182 e2_fz (e2_fa ein_173 (e2_fa ein_174 (e2_fa ein_180 e2_fz))) (by decide) co_b217 ex2_182 ck_b217
/-! b218 X10_numeral -/
def as_b218 : List ev_V := [(2, 83, 0), (0, 4, 0), (0, 20, 0)]
def E_b218 : e2_E := [(2147483648, 2147583648, 0, 0), (2147483648, 2147483656, 1, 0), (2147483648, 2147485249, 2, 0)]
noncomputable def f_b218 : ev_H := (bn1099 : e2_Q8)
noncomputable def q_b218_0 : ev_H := (bn1085 : e2_Q8)
noncomputable def rs_b218 : e2_Rs := [((0, 4, 0), q_b218_0)]
noncomputable def s_b218 : e2_Sm := (182, as_b218, E_b218, f_b218, rs_b218)
noncomputable def S_b218 : List e2_Sm := []
noncomputable def I_b218 : List e2_In := [(173, 3, e2x_173), (174, 1, e2x_174), (180, 1, e2x_180)]
set_option maxRecDepth 1000000 in
theorem ck_b218 : e2_run (e2_cal S_b218 I_b218 4000 2) (e2_fin rs_b218) e2x_182 (fun _ => false) (fun _ _ _ _ _ => false) 4000 (e2_seek e2x_182 0) (e2_al 4 as_b218) [] E_b218 f_b218 = true := by decide +kernel
set_option maxRecDepth 1000000 in
theorem co_b218 : e2_okSB E_b218.length as_b218 f_b218 rs_b218 = true := by decide +kernel
theorem cs_b218 (hen : en_ok) (l : Launch) : e2_smOk l 3 s_b218 := e2_con0 (H := 0) (n := 2) (C := evd_182) (S := S_b218) (I := I_b218) (fuel := 4000) [] hen ei_182 e2_fz (e2_fa ein_173 (e2_fa ein_174 (e2_fa ein_180 e2_fz))) (by decide) co_b218 ex2_182 ck_b218
/-! b219 X10_numeral -/
def as_b219 : List ev_V := [(2, 83, 0), (0, 4, 0), (0, 20, 0)]
def E_b219 : e2_E := [(2147483648, 2147583648, 0, 0), (2147483648, 2147483656, 1, 0), (2147483648, 2147485249, 2, 0)]
noncomputable def f_b219 : ev_H := (bn967 : e2_Q8)
noncomputable def q_b219_0 : ev_H := (bn1149 : e2_Q8)
noncomputable def q_b219_1 : ev_H := (bn947 : e2_Q8)
noncomputable def q_b219_2 : ev_H := (bn939 : e2_Q8)
noncomputable def q_b219_3 : ev_H := (bn931 : e2_Q8)
noncomputable def q_b219_4 : ev_H := (bn923 : e2_Q8)
noncomputable def q_b219_5 : ev_H := (bn915 : e2_Q8)
noncomputable def rs_b219 : e2_Rs := [((0, 4, 0), q_b219_0), ((11, 2147483652, 2147483668), q_b219_1), ((11, 2147483652, 2147483668), q_b219_2), ((11, 2147483652, 2147483668), q_b219_3), ((11, 2147483652, 2147483668), q_b219_4), ((11, 2147483652, 2147483668), q_b219_5)]
noncomputable def s_b219 : e2_Sm := (182, as_b219, E_b219, f_b219, rs_b219)
noncomputable def S_b219 : List e2_Sm := [s_b174]
noncomputable def I_b219 : List e2_In := [(173, 3, e2x_173), (174, 1, e2x_174)]
set_option maxRecDepth 1000000 in
theorem ck_b219 : e2_run (e2_cal S_b219 I_b219 4000 1) (e2_fin rs_b219) e2x_182 (fun _ => false) (fun _ _ _ _ _ => false) 4000 (e2_seek e2x_182 0) (e2_al 4 as_b219) [] E_b219 f_b219 = true := by decide +kernel
set_option maxRecDepth 1000000 in
theorem co_b219 : e2_okSB E_b219.length as_b219 f_b219 rs_b219 = true := by decide +kernel
theorem cs_b219 (hen : en_ok) (l : Launch) : e2_smOk l 5 s_b219 := e2_con0 (H := 3) (n := 1) (C := evd_182) (S := S_b219) (I := I_b219) (fuel := 4000) [] hen ei_182 (e2_fa (cs_b174 hen l) e2_fz) (e2_fa ein_173 (e2_fa ein_174 e2_fz)) (by decide) co_b219 ex2_182 ck_b219
/-! b220 X10_numeral -/
def as_b220 : List ev_V := [(2, 83, 0), (0, 4, 0), (0, 20, 0)]
def E_b220 : e2_E := [(2147483648, 2147583648, 0, 0), (2147483648, 2147483656, 1, 0), (2147483648, 2147485249, 2, 0)]
noncomputable def f_b220 : ev_H := (bn1151 : e2_Q8)
noncomputable def q_b220_0 : ev_H := (bn1103 : e2_Q8)
noncomputable def rs_b220 : e2_Rs := [((0, 4, 0), q_b220_0)]
noncomputable def s_b220 : e2_Sm := (182, as_b220, E_b220, f_b220, rs_b220)
noncomputable def S_b220 : List e2_Sm := []
noncomputable def I_b220 : List e2_In := [(173, 3, e2x_173), (174, 1, e2x_174), (180, 1, e2x_180)]
set_option maxRecDepth 1000000 in
theorem ck_b220 : e2_run (e2_cal S_b220 I_b220 4000 2) (e2_fin rs_b220) e2x_182 (fun _ => false) (fun _ _ _ _ _ => false) 4000 (e2_seek e2x_182 0) (e2_al 4 as_b220) [] E_b220 f_b220 = true := by decide +kernel
set_option maxRecDepth 1000000 in
theorem co_b220 : e2_okSB E_b220.length as_b220 f_b220 rs_b220 = true := by decide +kernel
theorem cs_b220 (hen : en_ok) (l : Launch) : e2_smOk l 3 s_b220 := e2_con0 (H := 0) (n := 2) (C := evd_182) (S := S_b220) (I := I_b220) (fuel := 4000) [] hen ei_182 e2_fz (e2_fa ein_173 (e2_fa ein_174 (e2_fa ein_180 e2_fz))) (by decide) co_b220 ex2_182 ck_b220
/-! b221 X10_numeral -/
def as_b221 : List ev_V := [(2, 83, 0), (0, 4, 0), (0, 20, 0)]
def E_b221 : e2_E := [(2147483648, 2147583648, 0, 0), (2147483648, 2147483656, 1, 0), (2147483648, 2147485249, 2, 0)]
noncomputable def f_b221 : ev_H := (bn1089 : e2_Q8)
noncomputable def q_b221_0 : ev_H := (bn1091 : e2_Q8)
noncomputable def rs_b221 : e2_Rs := [((0, 4, 0), q_b221_0)]
noncomputable def s_b221 : e2_Sm := (182, as_b221, E_b221, f_b221, rs_b221)
noncomputable def S_b221 : List e2_Sm := []
noncomputable def I_b221 : List e2_In := [(173, 3, e2x_173), (174, 1, e2x_174), (180, 1, e2x_180)]
set_option maxRecDepth 1000000 in
theorem ck_b221 : e2_run (e2_cal S_b221 I_b221 4000 2) (e2_fin rs_b221) e2x_182 (fun _ => false) (fun _ _ _ _ _ => false) 4000 (e2_seek e2x_182 0) (e2_al 4 as_b221) [] E_b221 f_b221 = true := by decide +kernel
set_option maxRecDepth 1000000 in
theorem co_b221 : e2_okSB E_b221.length as_b221 f_b221 rs_b221 = true := by decide +kernel
theorem cs_b221 (hen : en_ok) (l : Launch) : e2_smOk l 3 s_b221 := e2_con0 (H := 0) (n := 2) (C := evd_182) (S := S_b221) (I := I_b221) (fuel := 4000) [] hen ei_182 e2_fz (e2_fa ein_173 (e2_fa ein_174 (e2_fa ein_180 e2_fz))) (by decide) co_b221 ex2_182 ck_b221
/-! b222 X10_after -/
def as_b222 : List ev_V := [(2, 83, 0), (4, 24948, 0), (0, 0, 0), (0, 99, 0)]
def E_b222 : e2_E := [(2147483648, 2147583648, 0, 0), (2147483648, 2147483656, 1, 0), (2147483648, 2147485249, 2, 0)]
noncomputable def f_b222 : ev_H := (bn1083 : e2_Q8)
noncomputable def q_b222_0 : ev_H := (bn1083 : e2_Q8)
noncomputable def rs_b222 : e2_Rs := [((0, 0, 0), q_b222_0)]
noncomputable def s_b222 : e2_Sm := (183, as_b222, E_b222, f_b222, rs_b222)
noncomputable def S_b222 : List e2_Sm := [s_b178, s_b205]
noncomputable def I_b222 : List e2_In := [(179, 3, e2x_179)]
set_option maxRecDepth 1000000 in
theorem ck_b222 : e2_run (e2_cal S_b222 I_b222 4000 1) (e2_fin rs_b222) e2x_183 (fun _ => false) (fun _ _ _ _ _ => false) 4000 (e2_seek e2x_183 0) (e2_al 5 as_b222) [] E_b222 f_b222 = true := by decide +kernel
set_option maxRecDepth 1000000 in
theorem co_b222 : e2_okSB E_b222.length as_b222 f_b222 rs_b222 = true := by decide +kernel
theorem cs_b222 (hen : en_ok) (l : Launch) : e2_smOk l 4 s_b222 := e2_con0 (H := 2) (n := 1) (C := evd_183) (S := S_b222) (I := I_b222) (fuel := 4000) [] hen ei_183 (e2_fa (cs_b178 hen l) (e2_fa (cs_b205 hen l) e2_fz)) (e2_fa ein_179 e2_fz) (by decide) co_b222 ex2_183 ck_b222
/-! b223 X10_after -/
def as_b223 : List ev_V := [(2, 83, 0), (4, 24948, 0), (0, 0, 0), (0, 99, 0)]
def E_b223 : e2_E := [(2147483648, 2147583648, 0, 0), (2147483648, 2147483656, 1, 0), (2147483648, 2147485249, 2, 0)]
noncomputable def f_b223 : ev_H := (bn1085 : e2_Q8)
noncomputable def q_b223_0 : ev_H := (bn1085 : e2_Q8)
noncomputable def rs_b223 : e2_Rs := [((0, 0, 0), q_b223_0)]
noncomputable def s_b223 : e2_Sm := (183, as_b223, E_b223, f_b223, rs_b223)
noncomputable def S_b223 : List e2_Sm := [s_b179, s_b206]
noncomputable def I_b223 : List e2_In := [(179, 3, e2x_179)]
set_option maxRecDepth 1000000 in
theorem ck_b223 : e2_run (e2_cal S_b223 I_b223 4000 1) (e2_fin rs_b223) e2x_183 (fun _ => false) (fun _ _ _ _ _ => false) 4000 (e2_seek e2x_183 0) (e2_al 5 as_b223) [] E_b223 f_b223 = true := by decide +kernel
set_option maxRecDepth 1000000 in
theorem co_b223 : e2_okSB E_b223.length as_b223 f_b223 rs_b223 = true := by decide +kernel
theorem cs_b223 (hen : en_ok) (l : Launch) : e2_smOk l 4 s_b223 := e2_con0 (H := 2) (n := 1) (C := evd_183) (S := S_b223) (I := I_b223) (fuel := 4000) [] hen ei_183 (e2_fa (cs_b179 hen l) (e2_fa (cs_b206 hen l) e2_fz)) (e2_fa ein_179 e2_fz) (by decide) co_b223 ex2_183 ck_b223
/-! b224 X10_after -/
def as_b224 : List ev_V := [(2, 83, 0), (4, 24948, 0), (0, 0, 0), (0, 99, 0)]
def E_b224 : e2_E := [(2147483648, 2147583648, 0, 0), (2147483648, 2147483656, 1, 0), (2147483648, 2147485249, 2, 0)]
noncomputable def f_b224 : ev_H := (bn1097 : e2_Q8)
noncomputable def q_b224_0 : ev_H := (bn1097 : e2_Q8)
noncomputable def rs_b224 : e2_Rs := [((0, 0, 0), q_b224_0)]
noncomputable def s_b224 : e2_Sm := (183, as_b224, E_b224, f_b224, rs_b224)
noncomputable def S_b224 : List e2_Sm := [s_b185, s_b207]
noncomputable def I_b224 : List e2_In := [(179, 3, e2x_179)]
set_option maxRecDepth 1000000 in
theorem ck_b224 : e2_run (e2_cal S_b224 I_b224 4000 1) (e2_fin rs_b224) e2x_183 (fun _ => false) (fun _ _ _ _ _ => false) 4000 (e2_seek e2x_183 0) (e2_al 5 as_b224) [] E_b224 f_b224 = true := by decide +kernel
set_option maxRecDepth 1000000 in
theorem co_b224 : e2_okSB E_b224.length as_b224 f_b224 rs_b224 = true := by decide +kernel
theorem cs_b224 (hen : en_ok) (l : Launch) : e2_smOk l 4 s_b224 := e2_con0 (H := 2) (n := 1) (C := evd_183) (S := S_b224) (I := I_b224) (fuel := 4000) [] hen ei_183 (e2_fa (cs_b185 hen l) (e2_fa (cs_b207 hen l) e2_fz)) (e2_fa ein_179 e2_fz) (by decide) co_b224 ex2_183 ck_b224
/-! b225 X10_after -/
def as_b225 : List ev_V := [(2, 83, 0), (4, 24948, 0), (0, 0, 0), (0, 99, 0)]
def E_b225 : e2_E := [(2147483648, 2147583648, 0, 0), (2147483648, 2147483656, 1, 0), (2147483648, 2147485249, 2, 0)]
noncomputable def f_b225 : ev_H := (bn1153 : e2_Q8)
noncomputable def q_b225_0 : ev_H := (bn1137 : e2_Q8)
noncomputable def rs_b225 : e2_Rs := [((0, 0, 0), q_b225_0)]
noncomputable def s_b225 : e2_Sm := (183, as_b225, E_b225, f_b225, rs_b225)
noncomputable def S_b225 : List e2_Sm := [s_b191, s_b208]
noncomputable def I_b225 : List e2_In := [(179, 3, e2x_179)]
set_option maxRecDepth 1000000 in
theorem ck_b225 : e2_run (e2_cal S_b225 I_b225 4000 1) (e2_fin rs_b225) e2x_183 (fun _ => false) (fun _ _ _ _ _ => false) 4000 (e2_seek e2x_183 0) (e2_al 5 as_b225) [] E_b225 f_b225 = true := by decide +kernel
set_option maxRecDepth 1000000 in
theorem co_b225 : e2_okSB E_b225.length as_b225 f_b225 rs_b225 = true := by decide +kernel
theorem cs_b225 (hen : en_ok) (l : Launch) : e2_smOk l 5 s_b225 := e2_con0 (H := 3) (n := 1) (C := evd_183) (S := S_b225) (I := I_b225) (fuel := 4000) [] hen ei_183 (e2_fa (cs_b191 hen l) (e2_fa ((cs_b208 hen l).mono (by decide)) e2_fz)) (e2_fa ein_179 e2_fz) (by decide) co_b225 ex2_183 ck_b225
/-! b226 X10_after -/
def as_b226 : List ev_V := [(2, 83, 0), (4, 24948, 0), (0, 0, 0), (0, 99, 0)]
def E_b226 : e2_E := [(2147483648, 2147583648, 0, 0), (2147483648, 2147483656, 1, 0), (2147483648, 2147485249, 2, 0)]
def bn1190 : e2_Q7 := (bn845, bn437)
def bn1191 : e2_Q8 := (bn733, bn1190)
noncomputable def f_b226 : ev_H := (bn1191 : e2_Q8)
noncomputable def q_b226_0 : ev_H := (bn1093 : e2_Q8)
def bn1192 : e2_Q7 := (bn845, bn1159)
def bn1193 : e2_Q8 := (bn733, bn1192)
noncomputable def q_b226_1 : ev_H := (bn1193 : e2_Q8)
noncomputable def q_b226_2 : ev_H := (bn1003 : e2_Q8)
noncomputable def q_b226_3 : ev_H := (bn1011 : e2_Q8)
noncomputable def q_b226_4 : ev_H := (bn1019 : e2_Q8)
noncomputable def q_b226_5 : ev_H := (bn939 : e2_Q8)
noncomputable def q_b226_6 : ev_H := (bn1027 : e2_Q8)
noncomputable def q_b226_7 : ev_H := (bn1179 : e2_Q8)
def bn1194 : e2_Q7 := (bn845, bn375)
def bn1195 : e2_Q8 := (bn733, bn1194)
noncomputable def q_b226_8 : ev_H := (bn1195 : e2_Q8)
def bn1196 : e2_Q7 := (bn845, bn1187)
def bn1197 : e2_Q8 := (bn733, bn1196)
noncomputable def q_b226_9 : ev_H := (bn1197 : e2_Q8)
noncomputable def rs_b226 : e2_Rs := [((0, 0, 0), q_b226_0), ((0, 0, 0), q_b226_1), ((11, 2147483648, 2147483747), q_b226_2), ((11, 2147483648, 2147483747), q_b226_3), ((11, 2147483648, 2147483747), q_b226_4), ((11, 2147483648, 2147483747), q_b226_5), ((11, 2147483648, 2147483747), q_b226_6), ((0, 0, 0), q_b226_7), ((0, 0, 0), q_b226_8), ((0, 0, 0), q_b226_9)]
noncomputable def s_b226 : e2_Sm := (183, as_b226, E_b226, f_b226, rs_b226)
noncomputable def S_b226 : List e2_Sm := [s_b181, s_b209, s_b210, s_b211, s_b212, s_b213, s_b214]
noncomputable def I_b226 : List e2_In := [(179, 3, e2x_179)]
set_option maxRecDepth 1000000 in
theorem ck_b226 : e2_run (e2_cal S_b226 I_b226 4000 1) (e2_fin rs_b226) e2x_183 (fun _ => false) (fun _ _ _ _ _ => false) 4000 (e2_seek e2x_183 0) (e2_al 5 as_b226) [] E_b226 f_b226 = true := by decide +kernel
set_option maxRecDepth 1000000 in
theorem co_b226 : e2_okSB E_b226.length as_b226 f_b226 rs_b226 = true := by decide +kernel
theorem cs_b226 (hen : en_ok) (l : Launch) : e2_smOk l 8 s_b226 := e2_con0 (H := 6) (n := 1) (C := evd_183) (S := S_b226) (I := I_b226) (fuel := 4000) [] hen ei_183 (e2_fa (cs_b181 hen l) (e2_fa ((cs_b209 hen l).mono (by decide)) (e2_fa ((cs_b210 hen l).mono (by decide)) (e2_fa ((cs_b211 hen l).mono (by decide)) (e2_fa ((cs_b212 hen l).mono (by decide)) (e2_fa ((cs_b213 hen l).mono (by decide)) (e2_fa ((cs_b214 hen l).mono (by decide)) e2_fz))))))) (e2_fa ein_179 e2_fz) (by decide) co_b226 ex2_183 ck_b226
/-! b227 X10_after -/
def as_b227 : List ev_V := [(2, 83, 0), (4, 24948, 0), (0, 0, 0), (0, 99, 0)]
def E_b227 : e2_E := [(2147483648, 2147583648, 0, 0), (2147483648, 2147483656, 1, 0), (2147483648, 2147485249, 2, 0)]
def bn1198 : e2_Q7 := (bn736, bn421)
def bn1199 : e2_Q8 := (bn733, bn1198)
noncomputable def f_b227 : ev_H := (bn1199 : e2_Q8)
noncomputable def q_b227_0 : ev_H := (bn1125 : e2_Q8)
noncomputable def rs_b227 : e2_Rs := [((0, 0, 0), q_b227_0)]
noncomputable def s_b227 : e2_Sm := (183, as_b227, E_b227, f_b227, rs_b227)
noncomputable def S_b227 : List e2_Sm := [s_b190, s_b215]
noncomputable def I_b227 : List e2_In := [(179, 3, e2x_179)]
set_option maxRecDepth 1000000 in
theorem ck_b227 : e2_run (e2_cal S_b227 I_b227 4000 1) (e2_fin rs_b227) e2x_183 (fun _ => false) (fun _ _ _ _ _ => false) 4000 (e2_seek e2x_183 0) (e2_al 5 as_b227) [] E_b227 f_b227 = true := by decide +kernel
set_option maxRecDepth 1000000 in
theorem co_b227 : e2_okSB E_b227.length as_b227 f_b227 rs_b227 = true := by decide +kernel
theorem cs_b227 (hen : en_ok) (l : Launch) : e2_smOk l 5 s_b227 := e2_con0 (H := 3) (n := 1) (C := evd_183) (S := S_b227) (I := I_b227) (fuel := 4000) [] hen ei_183 (e2_fa (cs_b190 hen l) (e2_fa ((cs_b215 hen l).mono (by decide)) e2_fz)) (e2_fa ein_179 e2_fz) (by decide) co_b227 ex2_183 ck_b227
/-! b228 X10_after -/
def as_b228 : List ev_V := [(2, 83, 0), (4, 24948, 0), (0, 0, 0), (0, 99, 0)]
def E_b228 : e2_E := [(2147483648, 2147583648, 0, 0), (2147483648, 2147483656, 1, 0), (2147483648, 2147485249, 2, 0)]
noncomputable def f_b228 : ev_H := (bn1099 : e2_Q8)
noncomputable def q_b228_0 : ev_H := (bn1085 : e2_Q8)
noncomputable def rs_b228 : e2_Rs := [((0, 0, 0), q_b228_0)]
noncomputable def s_b228 : e2_Sm := (183, as_b228, E_b228, f_b228, rs_b228)
noncomputable def S_b228 : List e2_Sm := [s_b183, s_b206]
noncomputable def I_b228 : List e2_In := [(179, 3, e2x_179)]
set_option maxRecDepth 1000000 in
theorem ck_b228 : e2_run (e2_cal S_b228 I_b228 4000 1) (e2_fin rs_b228) e2x_183 (fun _ => false) (fun _ _ _ _ _ => false) 4000 (e2_seek e2x_183 0) (e2_al 5 as_b228) [] E_b228 f_b228 = true := by decide +kernel
set_option maxRecDepth 1000000 in
theorem co_b228 : e2_okSB E_b228.length as_b228 f_b228 rs_b228 = true := by decide +kernel
theorem cs_b228 (hen : en_ok) (l : Launch) : e2_smOk l 5 s_b228 := e2_con0 (H := 3) (n := 1) (C := evd_183) (S := S_b228) (I := I_b228) (fuel := 4000) [] hen ei_183 (e2_fa (cs_b183 hen l) (e2_fa ((cs_b206 hen l).mono (by decide)) e2_fz)) (e2_fa ein_179 e2_fz) (by decide) co_b228 ex2_183 ck_b228
/-! b229 X10_after -/
def as_b229 : List ev_V := [(2, 83, 0), (4, 24948, 0), (0, 0, 0), (0, 99, 0)]
def E_b229 : e2_E := [(2147483648, 2147583648, 0, 0), (2147483648, 2147483656, 1, 0), (2147483648, 2147485249, 2, 0)]
def bn1200 : e2_Q7 := (bn845, bn429)
def bn1201 : e2_Q8 := (bn733, bn1200)
noncomputable def f_b229 : ev_H := (bn1201 : e2_Q8)
noncomputable def q_b229_0 : ev_H := (bn1101 : e2_Q8)
noncomputable def q_b229_1 : ev_H := (bn1193 : e2_Q8)
def bn1202 : e2_Q7 := (bn845, bn1169)
def bn1203 : e2_Q8 := (bn733, bn1202)
noncomputable def q_b229_2 : ev_H := (bn1203 : e2_Q8)
noncomputable def q_b229_3 : ev_H := (bn1003 : e2_Q8)
noncomputable def q_b229_4 : ev_H := (bn1011 : e2_Q8)
noncomputable def q_b229_5 : ev_H := (bn1019 : e2_Q8)
noncomputable def q_b229_6 : ev_H := (bn939 : e2_Q8)
noncomputable def q_b229_7 : ev_H := (bn1027 : e2_Q8)
noncomputable def q_b229_8 : ev_H := (bn1179 : e2_Q8)
noncomputable def q_b229_9 : ev_H := (bn1195 : e2_Q8)
noncomputable def rs_b229 : e2_Rs := [((0, 0, 0), q_b229_0), ((0, 0, 0), q_b229_1), ((0, 0, 0), q_b229_2), ((11, 2147483648, 2147483747), q_b229_3), ((11, 2147483648, 2147483747), q_b229_4), ((11, 2147483648, 2147483747), q_b229_5), ((11, 2147483648, 2147483747), q_b229_6), ((11, 2147483648, 2147483747), q_b229_7), ((0, 0, 0), q_b229_8), ((0, 0, 0), q_b229_9)]
noncomputable def s_b229 : e2_Sm := (183, as_b229, E_b229, f_b229, rs_b229)
noncomputable def S_b229 : List e2_Sm := [s_b184, s_b205, s_b210, s_b211, s_b212, s_b213, s_b214]
noncomputable def I_b229 : List e2_In := [(179, 3, e2x_179)]
set_option maxRecDepth 1000000 in
theorem ck_b229 : e2_run (e2_cal S_b229 I_b229 4000 1) (e2_fin rs_b229) e2x_183 (fun _ => false) (fun _ _ _ _ _ => false) 4000 (e2_seek e2x_183 0) (e2_al 5 as_b229) [] E_b229 f_b229 = true := by decide +kernel
set_option maxRecDepth 1000000 in
theorem co_b229 : e2_okSB E_b229.length as_b229 f_b229 rs_b229 = true := by decide +kernel
theorem cs_b229 (hen : en_ok) (l : Launch) : e2_smOk l 8 s_b229 := e2_con0 (H := 6) (n := 1) (C := evd_183) (S := S_b229) (I := I_b229) (fuel := 4000) [] hen ei_183 (e2_fa (cs_b184 hen l) (e2_fa ((cs_b205 hen l).mono (by decide)) (e2_fa ((cs_b210 hen l).mono (by decide)) (e2_fa ((cs_b211 hen l).mono (by decide)) (e2_fa ((cs_b212 hen l).mono (by decide)) (e2_fa ((cs_b213 hen l).mono (by decide)) (e2_fa ((cs_b214 hen l).mono (by decide)) e2_fz))))))) (e2_fa ein_179 e2_fz) (by decide) co_b229 ex2_183 ck_b229
/-! b230 X10_after -/
def as_b230 : List ev_V := [(2, 83, 0), (4, 24948, 0), (0, 0, 0), (0, 99, 0)]
def E_b230 : e2_E := [(2147483648, 2147583648, 0, 0), (2147483648, 2147483656, 1, 0), (2147483648, 2147485249, 2, 0)]
noncomputable def f_b230 : ev_H := (bn1103 : e2_Q8)
noncomputable def q_b230_0 : ev_H := (bn1103 : e2_Q8)
noncomputable def rs_b230 : e2_Rs := [((0, 0, 0), q_b230_0)]
noncomputable def s_b230 : e2_Sm := (183, as_b230, E_b230, f_b230, rs_b230)
noncomputable def S_b230 : List e2_Sm := [s_b186, s_b209]
noncomputable def I_b230 : List e2_In := [(179, 3, e2x_179)]
set_option maxRecDepth 1000000 in
theorem ck_b230 : e2_run (e2_cal S_b230 I_b230 4000 1) (e2_fin rs_b230) e2x_183 (fun _ => false) (fun _ _ _ _ _ => false) 4000 (e2_seek e2x_183 0) (e2_al 5 as_b230) [] E_b230 f_b230 = true := by decide +kernel
set_option maxRecDepth 1000000 in
theorem co_b230 : e2_okSB E_b230.length as_b230 f_b230 rs_b230 = true := by decide +kernel
theorem cs_b230 (hen : en_ok) (l : Launch) : e2_smOk l 4 s_b230 := e2_con0 (H := 2) (n := 1) (C := evd_183) (S := S_b230) (I := I_b230) (fuel := 4000) [] hen ei_183 (e2_fa (cs_b186 hen l) (e2_fa (cs_b209 hen l) e2_fz)) (e2_fa ein_179 e2_fz) (by decide) co_b230 ex2_183 ck_b230
/-! b231 X10_after -/
def as_b231 : List ev_V := [(2, 83, 0), (4, 24948, 0), (0, 0, 0), (0, 99, 0)]
def E_b231 : e2_E := [(2147483648, 2147583648, 0, 0), (2147483648, 2147483656, 1, 0), (2147483648, 2147485249, 2, 0)]
noncomputable def f_b231 : ev_H := (bn1091 : e2_Q8)
noncomputable def q_b231_0 : ev_H := (bn1091 : e2_Q8)
noncomputable def rs_b231 : e2_Rs := [((0, 0, 0), q_b231_0)]
noncomputable def s_b231 : e2_Sm := (183, as_b231, E_b231, f_b231, rs_b231)
noncomputable def S_b231 : List e2_Sm := [s_b187, s_b216]
noncomputable def I_b231 : List e2_In := [(179, 3, e2x_179)]
set_option maxRecDepth 1000000 in
theorem ck_b231 : e2_run (e2_cal S_b231 I_b231 4000 1) (e2_fin rs_b231) e2x_183 (fun _ => false) (fun _ _ _ _ _ => false) 4000 (e2_seek e2x_183 0) (e2_al 5 as_b231) [] E_b231 f_b231 = true := by decide +kernel
set_option maxRecDepth 1000000 in
theorem co_b231 : e2_okSB E_b231.length as_b231 f_b231 rs_b231 = true := by decide +kernel
theorem cs_b231 (hen : en_ok) (l : Launch) : e2_smOk l 4 s_b231 := e2_con0 (H := 2) (n := 1) (C := evd_183) (S := S_b231) (I := I_b231) (fuel := 4000) [] hen ei_183 (e2_fa (cs_b187 hen l) (e2_fa (cs_b216 hen l) e2_fz)) (e2_fa ein_179 e2_fz) (by decide) co_b231 ex2_183 ck_b231
/-! b232 X10_signed -/
def as_b232 : List ev_V := [(2, 83, 0)]
def E_b232 : e2_E := [(2147483648, 2147583648, 0, 0), (2147483648, 2147483656, 1, 0), (2147483648, 2147485249, 2, 0)]
noncomputable def f_b232 : ev_H := (bn1083 : e2_Q8)
noncomputable def q_b232_0 : ev_H := (bn1083 : e2_Q8)
noncomputable def rs_b232 : e2_Rs := [((0, 0, 0), q_b232_0)]
noncomputable def s_b232 : e2_Sm := (184, as_b232, E_b232, f_b232, rs_b232)
noncomputable def S_b232 : List e2_Sm := []
noncomputable def I_b232 : List e2_In := [(174, 1, e2x_174)]
set_option maxRecDepth 1000000 in
theorem ck_b232 : e2_run (e2_cal S_b232 I_b232 4000 1) (e2_fin rs_b232) e2x_184 (fun _ => false) (fun _ _ _ _ _ => false) 4000 (e2_seek e2x_184 0) (e2_al 4 as_b232) [] E_b232 f_b232 = true := by decide +kernel
set_option maxRecDepth 1000000 in
theorem co_b232 : e2_okSB E_b232.length as_b232 f_b232 rs_b232 = true := by decide +kernel
theorem cs_b232 (hen : en_ok) (l : Launch) : e2_smOk l 2 s_b232 := e2_con0 (H := 0) (n := 1) (C := evd_184) (S := S_b232) (I := I_b232) (fuel := 4000) [] hen ei_184 e2_fz (e2_fa ein_174 e2_fz) (by decide) co_b232 ex2_184 ck_b232
/-! b233 X10_signed -/
def as_b233 : List ev_V := [(2, 83, 0)]
def E_b233 : e2_E := [(2147483648, 2147583648, 0, 0), (2147483648, 2147483656, 1, 0), (2147483648, 2147485249, 2, 0)]
noncomputable def f_b233 : ev_H := (bn1085 : e2_Q8)
noncomputable def q_b233_0 : ev_H := (bn1085 : e2_Q8)
noncomputable def rs_b233 : e2_Rs := [((0, 0, 0), q_b233_0)]
noncomputable def s_b233 : e2_Sm := (184, as_b233, E_b233, f_b233, rs_b233)
noncomputable def S_b233 : List e2_Sm := []
noncomputable def I_b233 : List e2_In := [(174, 1, e2x_174)]
set_option maxRecDepth 1000000 in
theorem ck_b233 : e2_run (e2_cal S_b233 I_b233 4000 1) (e2_fin rs_b233) e2x_184 (fun _ => false) (fun _ _ _ _ _ => false) 4000 (e2_seek e2x_184 0) (e2_al 4 as_b233) [] E_b233 f_b233 = true := by decide +kernel
set_option maxRecDepth 1000000 in
theorem co_b233 : e2_okSB E_b233.length as_b233 f_b233 rs_b233 = true := by decide +kernel
theorem cs_b233 (hen : en_ok) (l : Launch) : e2_smOk l 2 s_b233 := e2_con0 (H := 0) (n := 1) (C := evd_184) (S := S_b233) (I := I_b233) (fuel := 4000) [] hen ei_184 e2_fz (e2_fa ein_174 e2_fz) (by decide) co_b233 ex2_184 ck_b233
/-! b234 X10_signed -/
def as_b234 : List ev_V := [(2, 83, 0)]
def E_b234 : e2_E := [(2147483648, 2147583648, 0, 0), (2147483648, 2147483656, 1, 0), (2147483648, 2147485249, 2, 0)]
noncomputable def f_b234 : ev_H := (bn1097 : e2_Q8)
noncomputable def q_b234_0 : ev_H := (bn1097 : e2_Q8)
noncomputable def rs_b234 : e2_Rs := [((0, 0, 0), q_b234_0)]
noncomputable def s_b234 : e2_Sm := (184, as_b234, E_b234, f_b234, rs_b234)
noncomputable def S_b234 : List e2_Sm := []
noncomputable def I_b234 : List e2_In := [(174, 1, e2x_174)]
set_option maxRecDepth 1000000 in
theorem ck_b234 : e2_run (e2_cal S_b234 I_b234 4000 1) (e2_fin rs_b234) e2x_184 (fun _ => false) (fun _ _ _ _ _ => false) 4000 (e2_seek e2x_184 0) (e2_al 4 as_b234) [] E_b234 f_b234 = true := by decide +kernel
set_option maxRecDepth 1000000 in
theorem co_b234 : e2_okSB E_b234.length as_b234 f_b234 rs_b234 = true := by decide +kernel
theorem cs_b234 (hen : en_ok) (l : Launch) : e2_smOk l 2 s_b234 := e2_con0 (H := 0) (n := 1) (C := evd_184) (S := S_b234) (I := I_b234) (fuel := 4000) [] hen ei_184 e2_fz (e2_fa ein_174 e2_fz) (by decide) co_b234 ex2_184 ck_b234
/-! b235 X10_signed -/
def as_b235 : List ev_V := [(2, 83, 0)]
def E_b235 : e2_E := [(2147483648, 2147583648, 0, 0), (2147483648, 2147483656, 1, 0), (2147483648, 2147485249, 2, 0)]
noncomputable def f_b235 : ev_H := (bn1137 : e2_Q8)
noncomputable def q_b235_0 : ev_H := (bn1137 : e2_Q8)
noncomputable def rs_b235 : e2_Rs := [((0, 0, 0), q_b235_0)]
noncomputable def s_b235 : e2_Sm := (184, as_b235, E_b235, f_b235, rs_b235)
noncomputable def S_b235 : List e2_Sm := []
noncomputable def I_b235 : List e2_In := [(174, 1, e2x_174)]
set_option maxRecDepth 1000000 in
theorem ck_b235 : e2_run (e2_cal S_b235 I_b235 4000 1) (e2_fin rs_b235) e2x_184 (fun _ => false) (fun _ _ _ _ _ => false) 4000 (e2_seek e2x_184 0) (e2_al 4 as_b235) [] E_b235 f_b235 = true := by decide +kernel
set_option maxRecDepth 1000000 in
theorem co_b235 : e2_okSB E_b235.length as_b235 f_b235 rs_b235 = true := by decide +kernel
theorem cs_b235 (hen : en_ok) (l : Launch) : e2_smOk l 2 s_b235 := e2_con0 (H := 0) (n := 1) (C := evd_184) (S := S_b235) (I := I_b235) (fuel := 4000) [] hen ei_184 e2_fz (e2_fa ein_174 e2_fz) (by decide) co_b235 ex2_184 ck_b235
/-! b236 X10_signed -/
def as_b236 : List ev_V := [(2, 83, 0)]
def E_b236 : e2_E := [(2147483648, 2147583648, 0, 0), (2147483648, 2147483656, 1, 0), (2147483648, 2147485249, 2, 0)]
noncomputable def f_b236 : ev_H := (bn1103 : e2_Q8)
noncomputable def q_b236_0 : ev_H := (bn1103 : e2_Q8)
noncomputable def rs_b236 : e2_Rs := [((0, 0, 0), q_b236_0)]
noncomputable def s_b236 : e2_Sm := (184, as_b236, E_b236, f_b236, rs_b236)
noncomputable def S_b236 : List e2_Sm := []
noncomputable def I_b236 : List e2_In := [(174, 1, e2x_174)]
set_option maxRecDepth 1000000 in
theorem ck_b236 : e2_run (e2_cal S_b236 I_b236 4000 1) (e2_fin rs_b236) e2x_184 (fun _ => false) (fun _ _ _ _ _ => false) 4000 (e2_seek e2x_184 0) (e2_al 4 as_b236) [] E_b236 f_b236 = true := by decide +kernel
set_option maxRecDepth 1000000 in
theorem co_b236 : e2_okSB E_b236.length as_b236 f_b236 rs_b236 = true := by decide +kernel
theorem cs_b236 (hen : en_ok) (l : Launch) : e2_smOk l 2 s_b236 := e2_con0 (H := 0) (n := 1) (C := evd_184) (S := S_b236) (I := I_b236) (fuel := 4000) [] hen ei_184 e2_fz (e2_fa ein_174 e2_fz) (by decide) co_b236 ex2_184 ck_b236
/-! b237 X10_signed -/
def as_b237 : List ev_V := [(2, 83, 0)]
def E_b237 : e2_E := [(2147483648, 2147583648, 0, 0), (2147483648, 2147483656, 1, 0), (2147483648, 2147485249, 2, 0)]
noncomputable def f_b237 : ev_H := (bn1153 : e2_Q8)
noncomputable def q_b237_0 : ev_H := (bn1161 : e2_Q8)
noncomputable def rs_b237 : e2_Rs := [((0, 0, 0), q_b237_0)]
noncomputable def s_b237 : e2_Sm := (184, as_b237, E_b237, f_b237, rs_b237)
noncomputable def S_b237 : List e2_Sm := []
noncomputable def I_b237 : List e2_In := [(173, 3, e2x_173), (174, 1, e2x_174), (178, 2, e2x_178), (180, 1, e2x_180)]
set_option maxRecDepth 1000000 in
theorem ck_b237 : e2_run (e2_cal S_b237 I_b237 4000 2) (e2_fin rs_b237) e2x_184 (fun _ => false) (fun _ _ _ _ _ => false) 4000 (e2_seek e2x_184 0) (e2_al 4 as_b237) [] E_b237 f_b237 = true := by decide +kernel
set_option maxRecDepth 1000000 in
theorem co_b237 : e2_okSB E_b237.length as_b237 f_b237 rs_b237 = true := by decide +kernel
theorem cs_b237 (hen : en_ok) (l : Launch) : e2_smOk l 3 s_b237 := e2_con0 (H := 0) (n := 2) (C := evd_184) (S := S_b237) (I := I_b237) (fuel := 4000) [] hen ei_184 e2_fz (e2_fa ein_173 (e2_fa ein_174 (e2_fa ein_178 (e2_fa ein_180 e2_fz)))) (by decide) co_b237 ex2_184 ck_b237
/-! b238 X10_signed -/
def as_b238 : List ev_V := [(2, 83, 0)]
def E_b238 : e2_E := [(2147483648, 2147583648, 0, 0), (2147483648, 2147483656, 1, 0), (2147483648, 2147485249, 2, 0)]
noncomputable def f_b238 : ev_H := (bn1163 : e2_Q8)
noncomputable def q_b238_0 : ev_H := (bn1171 : e2_Q8)
noncomputable def rs_b238 : e2_Rs := [((0, 0, 0), q_b238_0)]
noncomputable def s_b238 : e2_Sm := (184, as_b238, E_b238, f_b238, rs_b238)
noncomputable def S_b238 : List e2_Sm := []
noncomputable def I_b238 : List e2_In := [(173, 3, e2x_173), (174, 1, e2x_174), (178, 2, e2x_178), (180, 1, e2x_180)]
set_option maxRecDepth 1000000 in
theorem ck_b238 : e2_run (e2_cal S_b238 I_b238 4000 2) (e2_fin rs_b238) e2x_184 (fun _ => false) (fun _ _ _ _ _ => false) 4000 (e2_seek e2x_184 0) (e2_al 4 as_b238) [] E_b238 f_b238 = true := by decide +kernel
set_option maxRecDepth 1000000 in
theorem co_b238 : e2_okSB E_b238.length as_b238 f_b238 rs_b238 = true := by decide +kernel
theorem cs_b238 (hen : en_ok) (l : Launch) : e2_smOk l 3 s_b238 := e2_con0 (H := 0) (n := 2) (C := evd_184) (S := S_b238) (I := I_b238) (fuel := 4000) [] hen ei_184 e2_fz (e2_fa ein_173 (e2_fa ein_174 (e2_fa ein_178 (e2_fa ein_180 e2_fz)))) (by decide) co_b238 ex2_184 ck_b238
/-! b239 X10_signed -/
def as_b239 : List ev_V := [(2, 83, 0)]
def E_b239 : e2_E := [(2147483648, 2147583648, 0, 0), (2147483648, 2147483656, 1, 0), (2147483648, 2147485249, 2, 0)]
noncomputable def f_b239 : ev_H := (bn1065 : e2_Q8)
noncomputable def q_b239_0 : ev_H := (bn1179 : e2_Q8)
noncomputable def q_b239_1 : ev_H := (bn1027 : e2_Q8)
noncomputable def q_b239_2 : ev_H := (bn939 : e2_Q8)
noncomputable def q_b239_3 : ev_H := (bn1019 : e2_Q8)
noncomputable def q_b239_4 : ev_H := (bn1011 : e2_Q8)
noncomputable def q_b239_5 : ev_H := (bn1003 : e2_Q8)
noncomputable def rs_b239 : e2_Rs := [((0, 0, 0), q_b239_0), ((11, 0, 2147483657), q_b239_1), ((11, 0, 2147483657), q_b239_2), ((11, 0, 2147483657), q_b239_3), ((11, 0, 2147483657), q_b239_4), ((11, 0, 2147483657), q_b239_5)]
noncomputable def s_b239 : e2_Sm := (184, as_b239, E_b239, f_b239, rs_b239)
noncomputable def S_b239 : List e2_Sm := [s_b177]
noncomputable def I_b239 : List e2_In := [(173, 3, e2x_173), (174, 1, e2x_174), (178, 2, e2x_178)]
set_option maxRecDepth 1000000 in
theorem ck_b239 : e2_run (e2_cal S_b239 I_b239 4000 1) (e2_fin rs_b239) e2x_184 (fun _ => false) (fun _ _ _ _ _ => false) 4000 (e2_seek e2x_184 0) (e2_al 4 as_b239) [] E_b239 f_b239 = true := by decide +kernel
set_option maxRecDepth 1000000 in
theorem co_b239 : e2_okSB E_b239.length as_b239 f_b239 rs_b239 = true := by decide +kernel
theorem cs_b239 (hen : en_ok) (l : Launch) : e2_smOk l 5 s_b239 := e2_con0 (H := 3) (n := 1) (C := evd_184) (S := S_b239) (I := I_b239) (fuel := 4000) [] hen ei_184 (e2_fa (cs_b177 hen l) e2_fz) (e2_fa ein_173 (e2_fa ein_174 (e2_fa ein_178 e2_fz))) (by decide) co_b239 ex2_184 ck_b239
/-! b240 X10_signed -/
def as_b240 : List ev_V := [(2, 83, 0)]
def E_b240 : e2_E := [(2147483648, 2147583648, 0, 0), (2147483648, 2147483656, 1, 0), (2147483648, 2147485249, 2, 0)]
noncomputable def f_b240 : ev_H := (bn1099 : e2_Q8)
noncomputable def q_b240_0 : ev_H := (bn1085 : e2_Q8)
noncomputable def rs_b240 : e2_Rs := [((0, 0, 0), q_b240_0)]
noncomputable def s_b240 : e2_Sm := (184, as_b240, E_b240, f_b240, rs_b240)
noncomputable def S_b240 : List e2_Sm := []
noncomputable def I_b240 : List e2_In := [(173, 3, e2x_173), (174, 1, e2x_174), (178, 2, e2x_178), (180, 1, e2x_180)]
set_option maxRecDepth 1000000 in
theorem ck_b240 : e2_run (e2_cal S_b240 I_b240 4000 2) (e2_fin rs_b240) e2x_184 (fun _ => false) (fun _ _ _ _ _ => false) 4000 (e2_seek e2x_184 0) (e2_al 4 as_b240) [] E_b240 f_b240 = true := by decide +kernel
set_option maxRecDepth 1000000 in
theorem co_b240 : e2_okSB E_b240.length as_b240 f_b240 rs_b240 = true := by decide +kernel
theorem cs_b240 (hen : en_ok) (l : Launch) : e2_smOk l 3 s_b240 := e2_con0 (H := 0) (n := 2) (C := evd_184) (S := S_b240) (I := I_b240) (fuel := 4000) [] hen ei_184 e2_fz (e2_fa ein_173 (e2_fa ein_174 (e2_fa ein_178 (e2_fa ein_180 e2_fz)))) (by decide) co_b240 ex2_184 ck_b240
/-! b241 X10_signed -/
def as_b241 : List ev_V := [(2, 83, 0)]
def E_b241 : e2_E := [(2147483648, 2147583648, 0, 0), (2147483648, 2147483656, 1, 0), (2147483648, 2147485249, 2, 0)]
noncomputable def f_b241 : ev_H := (bn1201 : e2_Q8)
noncomputable def q_b241_0 : ev_H := (bn1197 : e2_Q8)
def bc222 : ev_C := (10, [(0, 0, 0), (2, 88, 0), (2, 115, 0), (2, 114, 0), (2, 86, 0), (2, 112, 0), (11, 2147483648, 2147483688), (2, 118, 0), (2, 120, 0), (2, 131, 0), (2, 91, 0), (11, 2147483648, 2147483668), (2, 123, 0), (0, 1, 0), (11, 2147483648, 2147485248), (2, 87, 0), (2, 84, 0), (2, 122, 0), (2, 100, 0), (2, 132, 0), (11, 2147483648, 2147483668), (11, 2147483648, 2147485248), (1, 0, 4294967296), (11, 2147483649, 2147483653), (11, 2147483648, 2147485248), (2, 93, 0), (2, 104, 0), (11, 2147483648, 2147483678), (2, 89, 0), (2, 92, 0), (2, 119, 0), (2, 90, 0), (2, 94, 0), (2, 103, 0), (11, 2147483648, 2147483688), (11, 2147483648, 2147549184), (11, 0, 4294967295), (11, 2147483648, 2147485248), (0, 0, 0), (11, 2147483648, 2147483668), (2, 85, 0), (11, 0, 4294967295), (5, 0, 0), (2, 95, 0), (2, 96, 0), (2, 97, 0), (2, 98, 0), (2, 99, 0), (2, 101, 0), (2, 102, 0), (2, 105, 0), (2, 106, 0), (2, 107, 0), (2, 108, 0), (2, 109, 0), (2, 110, 0), (2, 111, 0), (11, 2147483648, 2147484768), (11, 2147482048, 2147483655), (11, 2147483648, 2147483738), (11, 2147483648, 2147483678), (11, 0, 4294967295), (11, 0, 4294967295), (11, 0, 4294967295), (11, 0, 4294967295), (11, 0, 4294967295), (2, 113, 0), (2, 116, 0), (2, 117, 0), (2, 121, 0), (11, 0, 4294967295), (11, 0, 4294967295), (2, 124, 0), (2, 125, 0), (11, 0, 4294967295), (2, 126, 0), (2, 127, 0), (2, 128, 0), (2, 129, 0), (2, 130, 0)])
def bn1204 : e2_Q1 := (bc222, bc3)
def bn1205 : e2_Q2 := (bn196, bn1204)
def bn1206 : e2_Q3 := (bn1205, bn201)
def bn1207 : e2_Q4 := (bn195, bn1206)
def bn1208 : e2_Q5 := (bn1207, bn365)
def bn1209 : e2_Q6 := (bn1208, bn250)
def bn1210 : e2_Q7 := (bn845, bn1209)
def bn1211 : e2_Q8 := (bn733, bn1210)
noncomputable def q_b241_1 : ev_H := (bn1211 : e2_Q8)
def bc223 : ev_C := (10, [(0, 0, 0), (2, 88, 0), (2, 115, 0), (2, 114, 0), (2, 86, 0), (2, 112, 0), (11, 2147483648, 2147483688), (2, 118, 0), (2, 120, 0), (2, 131, 0), (2, 91, 0), (11, 2147483648, 2147483668), (2, 123, 0), (0, 1, 0), (11, 2147483648, 2147485248), (2, 87, 0), (2, 84, 0), (2, 122, 0), (2, 100, 0), (2, 132, 0), (11, 2147483648, 2147483668), (11, 2147483648, 2147485248), (1, 0, 4294967296), (11, 2147483649, 2147483653), (13, 10, 2147485247), (2, 93, 0), (2, 104, 0), (11, 2147483648, 2147483678), (2, 89, 0), (2, 92, 0), (2, 119, 0), (2, 90, 0), (2, 94, 0), (2, 103, 0), (11, 2147483648, 2147483688), (11, 2147483648, 2147549184), (13, 10, 2147485247), (13, 10, 2147485248), (0, 4, 0), (11, 2147483648, 2147483668), (2, 85, 0), (11, 0, 4294967295), (5, 0, 0), (2, 95, 0), (2, 96, 0), (2, 97, 0), (2, 98, 0), (2, 99, 0), (2, 101, 0), (2, 102, 0), (2, 105, 0), (2, 106, 0), (2, 107, 0), (2, 108, 0), (2, 109, 0), (2, 110, 0), (2, 111, 0), (11, 2147483648, 2147484768), (11, 2147482048, 2147483655), (11, 2147483648, 2147483738), (11, 2147483648, 2147483678), (11, 0, 4294967295), (11, 0, 4294967295), (11, 0, 4294967295), (11, 0, 4294967295), (11, 0, 4294967295), (2, 113, 0), (2, 116, 0), (2, 117, 0), (2, 121, 0), (11, 0, 4294967295), (11, 0, 4294967295), (2, 124, 0), (2, 125, 0), (11, 0, 4294967295), (2, 126, 0), (2, 127, 0), (2, 128, 0), (2, 129, 0), (2, 130, 0)])
def bn1212 : e2_Q1 := (bc223, bc3)
def bn1213 : e2_Q2 := (bn196, bn1212)
def bn1214 : e2_Q3 := (bn1213, bn201)
def bn1215 : e2_Q4 := (bn195, bn1214)
def bn1216 : e2_Q5 := (bn1215, bn365)
def bn1217 : e2_Q6 := (bn1216, bn250)
def bn1218 : e2_Q7 := (bn845, bn1217)
def bn1219 : e2_Q8 := (bn733, bn1218)
noncomputable def q_b241_2 : ev_H := (bn1219 : e2_Q8)
noncomputable def q_b241_3 : ev_H := (bn1027 : e2_Q8)
noncomputable def q_b241_4 : ev_H := (bn939 : e2_Q8)
noncomputable def q_b241_5 : ev_H := (bn1019 : e2_Q8)
noncomputable def q_b241_6 : ev_H := (bn1011 : e2_Q8)
noncomputable def q_b241_7 : ev_H := (bn1003 : e2_Q8)
def bc224 : ev_C := (10, [(0, 0, 0), (2, 88, 0), (2, 115, 0), (2, 114, 0), (2, 86, 0), (2, 112, 0), (11, 2147483648, 2147483688), (2, 118, 0), (2, 120, 0), (2, 131, 0), (2, 91, 0), (11, 2147483648, 2147483668), (2, 123, 0), (0, 1, 0), (11, 2147483648, 2147485248), (2, 87, 0), (2, 84, 0), (2, 122, 0), (2, 100, 0), (2, 132, 0), (11, 2147483648, 2147483668), (11, 2147483648, 2147485248), (1, 0, 4294967296), (11, 2147483649, 2147483653), (13, 10, 2147485247), (2, 93, 0), (2, 104, 0), (11, 2147483648, 2147483678), (2, 89, 0), (2, 92, 0), (2, 119, 0), (2, 90, 0), (2, 94, 0), (2, 103, 0), (11, 2147483648, 2147483688), (11, 2147483648, 2147549184), (13, 10, 2147485247), (13, 10, 2147485248), (11, 2147483650, 2147483651), (11, 2147483648, 2147483668), (2, 85, 0), (11, 0, 4294967295), (5, 0, 0), (2, 95, 0), (2, 96, 0), (2, 97, 0), (2, 98, 0), (2, 99, 0), (2, 101, 0), (2, 102, 0), (2, 105, 0), (2, 106, 0), (2, 107, 0), (2, 108, 0), (2, 109, 0), (2, 110, 0), (2, 111, 0), (11, 2147483648, 2147484768), (11, 2147482048, 2147483655), (11, 2147483648, 2147483738), (11, 2147483648, 2147483678), (11, 0, 4294967295), (11, 0, 4294967295), (11, 0, 4294967295), (11, 0, 4294967295), (11, 0, 4294967295), (2, 113, 0), (2, 116, 0), (2, 117, 0), (2, 121, 0), (11, 0, 4294967295), (11, 0, 4294967295), (2, 124, 0), (2, 125, 0), (11, 0, 4294967295), (2, 126, 0), (2, 127, 0), (2, 128, 0), (2, 129, 0), (2, 130, 0)])
def bn1220 : e2_Q1 := (bc224, bc3)
def bn1221 : e2_Q2 := (bn196, bn1220)
def bn1222 : e2_Q3 := (bn1221, bn201)
def bn1223 : e2_Q4 := (bn195, bn1222)
def bn1224 : e2_Q5 := (bn1223, bn365)
def bn1225 : e2_Q6 := (bn1224, bn250)
def bn1226 : e2_Q7 := (bn845, bn1225)
def bn1227 : e2_Q8 := (bn733, bn1226)
noncomputable def q_b241_8 : ev_H := (bn1227 : e2_Q8)
def bc225 : ev_C := (10, [(0, 0, 0), (2, 88, 0), (2, 115, 0), (2, 114, 0), (2, 86, 0), (2, 112, 0), (11, 2147483648, 2147483688), (2, 118, 0), (2, 120, 0), (2, 131, 0), (2, 91, 0), (11, 2147483648, 2147483668), (2, 123, 0), (0, 1, 0), (11, 2147483648, 2147485248), (2, 87, 0), (2, 84, 0), (2, 122, 0), (2, 100, 0), (2, 132, 0), (11, 2147483648, 2147483668), (11, 2147483648, 2147485248), (1, 0, 4294967296), (11, 2147483649, 2147483653), (13, 10, 2147485247), (2, 93, 0), (2, 104, 0), (11, 2147483648, 2147483678), (2, 89, 0), (2, 92, 0), (2, 119, 0), (2, 90, 0), (2, 94, 0), (2, 103, 0), (11, 2147483648, 2147483688), (11, 2147483648, 2147549184), (13, 10, 2147485247), (13, 10, 2147485248), (0, 1, 0), (11, 2147483648, 2147483668), (2, 85, 0), (11, 0, 4294967295), (5, 0, 0), (2, 95, 0), (2, 96, 0), (2, 97, 0), (2, 98, 0), (2, 99, 0), (2, 101, 0), (2, 102, 0), (2, 105, 0), (2, 106, 0), (2, 107, 0), (2, 108, 0), (2, 109, 0), (2, 110, 0), (2, 111, 0), (11, 2147483648, 2147484768), (11, 2147482048, 2147483655), (11, 2147483648, 2147483738), (11, 2147483648, 2147483678), (11, 0, 4294967295), (11, 0, 4294967295), (11, 0, 4294967295), (11, 0, 4294967295), (11, 0, 4294967295), (2, 113, 0), (2, 116, 0), (2, 117, 0), (2, 121, 0), (11, 0, 4294967295), (11, 0, 4294967295), (2, 124, 0), (2, 125, 0), (11, 0, 4294967295), (2, 126, 0), (2, 127, 0), (2, 128, 0), (2, 129, 0), (2, 130, 0)])
def bn1228 : e2_Q1 := (bc225, bc3)
def bn1229 : e2_Q2 := (bn196, bn1228)
def bn1230 : e2_Q3 := (bn1229, bn201)
def bn1231 : e2_Q4 := (bn195, bn1230)
def bn1232 : e2_Q5 := (bn1231, bn365)
def bn1233 : e2_Q6 := (bn1232, bn250)
def bn1234 : e2_Q7 := (bn845, bn1233)
def bn1235 : e2_Q8 := (bn733, bn1234)
noncomputable def q_b241_9 : ev_H := (bn1235 : e2_Q8)
noncomputable def rs_b241 : e2_Rs := [((0, 0, 0), q_b241_0), ((0, 0, 0), q_b241_1), ((0, 0, 0), q_b241_2), ((11, 0, 4294967295), q_b241_3), ((11, 0, 4294967295), q_b241_4), ((11, 0, 4294967295), q_b241_5), ((11, 0, 4294967295), q_b241_6), ((11, 0, 4294967295), q_b241_7), ((0, 0, 0), q_b241_8), ((0, 0, 0), q_b241_9)]
noncomputable def s_b241 : e2_Sm := (184, as_b241, E_b241, f_b241, rs_b241)
noncomputable def S_b241 : List e2_Sm := [s_b175, s_b177]
noncomputable def I_b241 : List e2_In := [(170, 2, e2x_170), (173, 3, e2x_173), (174, 1, e2x_174), (178, 2, e2x_178), (180, 1, e2x_180)]
set_option maxRecDepth 1000000 in
theorem ck_b241 : e2_run (e2_cal S_b241 I_b241 4000 2) (e2_fin rs_b241) e2x_184 (fun _ => false) (fun _ _ _ _ _ => false) 4000 (e2_seek e2x_184 0) (e2_al 4 as_b241) [] E_b241 f_b241 = true := by decide +kernel
set_option maxRecDepth 1000000 in
theorem co_b241 : e2_okSB E_b241.length as_b241 f_b241 rs_b241 = true := by decide +kernel
theorem cs_b241 (hen : en_ok) (l : Launch) : e2_smOk l 6 s_b241 := e2_con0 (H := 3) (n := 2) (C := evd_184) (S := S_b241) (I := I_b241) (fuel := 4000) [] hen ei_184 (e2_fa (cs_b175 hen l) (e2_fa (cs_b177 hen l) e2_fz)) (e2_fa ein_170 (e2_fa ein_173 (e2_fa ein_174 (e2_fa ein_178 (e2_fa ein_180 e2_fz))))) (by decide) co_b241 ex2_184 ck_b241
/-! b242 X10_signed -/
def as_b242 : List ev_V := [(2, 83, 0)]
def E_b242 : e2_E := [(2147483648, 2147583648, 0, 0), (2147483648, 2147483656, 1, 0), (2147483648, 2147485249, 2, 0)]
noncomputable def f_b242 : ev_H := (bn1125 : e2_Q8)
noncomputable def q_b242_0 : ev_H := (bn1125 : e2_Q8)
noncomputable def rs_b242 : e2_Rs := [((0, 0, 0), q_b242_0)]
noncomputable def s_b242 : e2_Sm := (184, as_b242, E_b242, f_b242, rs_b242)
noncomputable def S_b242 : List e2_Sm := []
noncomputable def I_b242 : List e2_In := [(174, 1, e2x_174)]
set_option maxRecDepth 1000000 in
theorem ck_b242 : e2_run (e2_cal S_b242 I_b242 4000 1) (e2_fin rs_b242) e2x_184 (fun _ => false) (fun _ _ _ _ _ => false) 4000 (e2_seek e2x_184 0) (e2_al 4 as_b242) [] E_b242 f_b242 = true := by decide +kernel
set_option maxRecDepth 1000000 in
theorem co_b242 : e2_okSB E_b242.length as_b242 f_b242 rs_b242 = true := by decide +kernel
theorem cs_b242 (hen : en_ok) (l : Launch) : e2_smOk l 2 s_b242 := e2_con0 (H := 0) (n := 1) (C := evd_184) (S := S_b242) (I := I_b242) (fuel := 4000) [] hen ei_184 e2_fz (e2_fa ein_174 e2_fz) (by decide) co_b242 ex2_184 ck_b242
/-! b243 X10_signed -/
def as_b243 : List ev_V := [(2, 83, 0)]
def E_b243 : e2_E := [(2147483648, 2147583648, 0, 0), (2147483648, 2147483656, 1, 0), (2147483648, 2147485249, 2, 0)]
noncomputable def f_b243 : ev_H := (bn1145 : e2_Q8)
noncomputable def q_b243_0 : ev_H := (bn1145 : e2_Q8)
noncomputable def rs_b243 : e2_Rs := [((0, 0, 0), q_b243_0)]
noncomputable def s_b243 : e2_Sm := (184, as_b243, E_b243, f_b243, rs_b243)
noncomputable def S_b243 : List e2_Sm := []
noncomputable def I_b243 : List e2_In := [(174, 1, e2x_174)]
set_option maxRecDepth 1000000 in
theorem ck_b243 : e2_run (e2_cal S_b243 I_b243 4000 1) (e2_fin rs_b243) e2x_184 (fun _ => false) (fun _ _ _ _ _ => false) 4000 (e2_seek e2x_184 0) (e2_al 4 as_b243) [] E_b243 f_b243 = true := by decide +kernel
set_option maxRecDepth 1000000 in
theorem co_b243 : e2_okSB E_b243.length as_b243 f_b243 rs_b243 = true := by decide +kernel
theorem cs_b243 (hen : en_ok) (l : Launch) : e2_smOk l 2 s_b243 := e2_con0 (H := 0) (n := 1) (C := evd_184) (S := S_b243) (I := I_b243) (fuel := 4000) [] hen ei_184 e2_fz (e2_fa ein_174 e2_fz) (by decide) co_b243 ex2_184 ck_b243
/-! b244 X10_signed -/
def as_b244 : List ev_V := [(2, 83, 0)]
def E_b244 : e2_E := [(2147483648, 2147583648, 0, 0), (2147483648, 2147483656, 1, 0), (2147483648, 2147485249, 2, 0)]
noncomputable def f_b244 : ev_H := (bn1105 : e2_Q8)
noncomputable def q_b244_0 : ev_H := (bn1105 : e2_Q8)
noncomputable def rs_b244 : e2_Rs := [((0, 0, 0), q_b244_0)]
noncomputable def s_b244 : e2_Sm := (184, as_b244, E_b244, f_b244, rs_b244)
noncomputable def S_b244 : List e2_Sm := []
noncomputable def I_b244 : List e2_In := [(174, 1, e2x_174)]
set_option maxRecDepth 1000000 in
theorem ck_b244 : e2_run (e2_cal S_b244 I_b244 4000 1) (e2_fin rs_b244) e2x_184 (fun _ => false) (fun _ _ _ _ _ => false) 4000 (e2_seek e2x_184 0) (e2_al 4 as_b244) [] E_b244 f_b244 = true := by decide +kernel
set_option maxRecDepth 1000000 in
theorem co_b244 : e2_okSB E_b244.length as_b244 f_b244 rs_b244 = true := by decide +kernel
theorem cs_b244 (hen : en_ok) (l : Launch) : e2_smOk l 2 s_b244 := e2_con0 (H := 0) (n := 1) (C := evd_184) (S := S_b244) (I := I_b244) (fuel := 4000) [] hen ei_184 e2_fz (e2_fa ein_174 e2_fz) (by decide) co_b244 ex2_184 ck_b244
/-! b245 X10_signed -/
def as_b245 : List ev_V := [(2, 83, 0)]
def E_b245 : e2_E := [(2147483648, 2147583648, 0, 0), (2147483648, 2147483656, 1, 0), (2147483648, 2147485249, 2, 0)]
noncomputable def f_b245 : ev_H := (bn1091 : e2_Q8)
noncomputable def q_b245_0 : ev_H := (bn1091 : e2_Q8)
noncomputable def rs_b245 : e2_Rs := [((0, 0, 0), q_b245_0)]
noncomputable def s_b245 : e2_Sm := (184, as_b245, E_b245, f_b245, rs_b245)
noncomputable def S_b245 : List e2_Sm := []
noncomputable def I_b245 : List e2_In := [(174, 1, e2x_174)]
set_option maxRecDepth 1000000 in
theorem ck_b245 : e2_run (e2_cal S_b245 I_b245 4000 1) (e2_fin rs_b245) e2x_184 (fun _ => false) (fun _ _ _ _ _ => false) 4000 (e2_seek e2x_184 0) (e2_al 4 as_b245) [] E_b245 f_b245 = true := by decide +kernel
set_option maxRecDepth 1000000 in
theorem co_b245 : e2_okSB E_b245.length as_b245 f_b245 rs_b245 = true := by decide +kernel
theorem cs_b245 (hen : en_ok) (l : Launch) : e2_smOk l 2 s_b245 := e2_con0 (H := 0) (n := 1) (C := evd_184) (S := S_b245) (I := I_b245) (fuel := 4000) [] hen ei_184 e2_fz (e2_fa ein_174 e2_fz) (by decide) co_b245 ex2_184 ck_b245
/-! b246 X10_readLine -/
def as_b246 : List ev_V := [(2, 83, 0)]
def E_b246 : e2_E := [(2147483648, 2147583648, 0, 0), (2147483648, 2147483656, 1, 0), (2147483648, 2147485249, 2, 0)]
def bc226 : ev_C := (10, [(0, 0, 0), (2, 88, 0), (2, 115, 0), (2, 114, 0), (2, 86, 0), (2, 112, 0), (11, 2147483648, 2147483688), (2, 118, 0), (2, 120, 0), (2, 131, 0), (2, 91, 0), (11, 2147483648, 2147483668), (2, 123, 0), (0, 1, 0), (11, 2147483648, 2147485248), (2, 87, 0), (2, 84, 0), (2, 122, 0), (2, 100, 0), (2, 132, 0), (11, 2147483648, 2147483668), (11, 2147483648, 2147485248), (1, 0, 4294967296), (0, 0, 0), (11, 2147483648, 2147485248), (2, 93, 0), (2, 104, 0), (11, 2147483648, 2147483678), (2, 89, 0), (2, 92, 0), (2, 119, 0), (2, 90, 0), (2, 94, 0), (2, 103, 0), (11, 2147483648, 2147483688), (11, 2147483648, 2147549184), (11, 0, 4294967295), (13, 2, 2147485249), (0, 1, 0), (11, 2147483648, 2147483668), (2, 85, 0), (11, 0, 4294967295), (5, 0, 0), (2, 95, 0), (2, 96, 0), (2, 97, 0), (2, 98, 0), (2, 99, 0), (2, 101, 0), (2, 102, 0), (2, 105, 0), (2, 106, 0), (2, 107, 0), (2, 108, 0), (2, 109, 0), (2, 110, 0), (2, 111, 0), (11, 2147483648, 2147484768), (11, 2147482048, 2147483655), (11, 2147483648, 2147483738), (11, 2147483648, 2147483678), (11, 0, 4294967295), (11, 0, 4294967295), (11, 0, 4294967295), (11, 0, 4294967295), (11, 0, 4294967295), (2, 113, 0), (2, 116, 0), (2, 117, 0), (2, 121, 0), (11, 0, 4294967295), (11, 0, 4294967295), (2, 124, 0), (2, 125, 0), (11, 0, 4294967295), (2, 126, 0), (2, 127, 0), (2, 128, 0), (2, 129, 0), (2, 130, 0)])
def bn1236 : e2_Q1 := (bc226, bc3)
def bn1237 : e2_Q2 := (bn196, bn1236)
def bn1238 : e2_Q3 := (bn1237, bn201)
def bn1239 : e2_Q4 := (bn195, bn1238)
def bn1240 : e2_Q5 := (bn1239, bn365)
def bn1241 : e2_Q6 := (bn1240, bn250)
def bn1242 : e2_Q7 := (bn736, bn1241)
def bn1243 : e2_Q8 := (bn733, bn1242)
noncomputable def f_b246 : ev_H := (bn1243 : e2_Q8)
def bc227 : ev_C := (10, [(0, 0, 0), (2, 88, 0), (2, 115, 0), (2, 114, 0), (2, 86, 0), (2, 112, 0), (11, 2147483648, 2147483688), (2, 118, 0), (2, 120, 0), (2, 131, 0), (2, 91, 0), (11, 2147483648, 2147483668), (2, 123, 0), (0, 1, 0), (11, 2147483648, 2147485248), (2, 87, 0), (2, 84, 0), (2, 122, 0), (2, 100, 0), (2, 132, 0), (11, 2147483648, 2147483668), (11, 2147483648, 2147485248), (1, 0, 4294967296), (11, 2147483649, 2147483653), (11, 2147483648, 2147485248), (2, 93, 0), (2, 104, 0), (11, 2147483648, 2147483678), (2, 89, 0), (2, 92, 0), (2, 119, 0), (2, 90, 0), (2, 94, 0), (2, 103, 0), (11, 2147483648, 2147483688), (11, 2147483648, 2147549184), (11, 0, 4294967295), (13, 2, 2147485249), (0, 1, 0), (11, 2147483648, 2147483668), (2, 85, 0), (11, 0, 4294967295), (5, 0, 0), (2, 95, 0), (2, 96, 0), (2, 97, 0), (2, 98, 0), (2, 99, 0), (2, 101, 0), (2, 102, 0), (2, 105, 0), (2, 106, 0), (2, 107, 0), (2, 108, 0), (2, 109, 0), (2, 110, 0), (2, 111, 0), (11, 2147483648, 2147484768), (11, 2147482048, 2147483655), (11, 2147483648, 2147483738), (11, 2147483648, 2147483678), (11, 0, 4294967295), (11, 0, 4294967295), (11, 0, 4294967295), (11, 0, 4294967295), (11, 0, 4294967295), (2, 113, 0), (2, 116, 0), (2, 117, 0), (2, 121, 0), (11, 0, 4294967295), (11, 0, 4294967295), (2, 124, 0), (2, 125, 0), (11, 0, 4294967295), (2, 126, 0), (2, 127, 0), (2, 128, 0), (2, 129, 0), (2, 130, 0)])
def bn1244 : e2_Q1 := (bc227, bc3)
def bn1245 : e2_Q2 := (bn196, bn1244)
def bn1246 : e2_Q3 := (bn1245, bn201)
def bn1247 : e2_Q4 := (bn195, bn1246)
def bn1248 : e2_Q5 := (bn1247, bn365)
def bn1249 : e2_Q6 := (bn1248, bn250)
def bn1250 : e2_Q7 := (bn736, bn1249)
def bn1251 : e2_Q8 := (bn733, bn1250)
noncomputable def q_b246_0 : ev_H := (bn1251 : e2_Q8)
noncomputable def rs_b246 : e2_Rs := [((9, 0, 0), q_b246_0)]
noncomputable def s_b246 : e2_Sm := (187, as_b246, E_b246, f_b246, rs_b246)
noncomputable def S_b246 : List e2_Sm := []
noncomputable def I_b246 : List e2_In := [(173, 3, e2x_173), (174, 1, e2x_174), (180, 1, e2x_180)]
set_option maxRecDepth 1000000 in
theorem ck_b246 : e2_run (e2_cal S_b246 I_b246 4000 2) (e2_fin rs_b246) e2x_187 (fun _ => false) (fun _ _ _ _ _ => false) 4000 (e2_seek e2x_187 0) (e2_al 3 as_b246) [] E_b246 f_b246 = true := by decide +kernel
set_option maxRecDepth 1000000 in
theorem co_b246 : e2_okSB E_b246.length as_b246 f_b246 rs_b246 = true := by decide +kernel
theorem cs_b246 (hen : en_ok) (l : Launch) : e2_smOk l 3 s_b246 := e2_con0 (H := 0) (n := 2) (C := evd_187) (S := S_b246) (I := I_b246) (fuel := 4000) [] hen ei_187 e2_fz (e2_fa ein_173 (e2_fa ein_174 (e2_fa ein_180 e2_fz))) (by decide) co_b246 ex2_187 ck_b246
/-! b247 X10_readLine -/
def as_b247 : List ev_V := [(2, 83, 0)]
def E_b247 : e2_E := [(2147483648, 2147583648, 0, 0), (2147483648, 2147483656, 1, 0), (2147483648, 2147485249, 2, 0)]
def bc228 : ev_C := (10, [(0, 0, 0), (2, 88, 0), (2, 115, 0), (2, 114, 0), (2, 86, 0), (2, 112, 0), (11, 2147483648, 2147483688), (2, 118, 0), (2, 120, 0), (2, 131, 0), (2, 91, 0), (11, 2147483648, 2147483668), (2, 123, 0), (0, 1, 0), (11, 2147483648, 2147485248), (2, 87, 0), (2, 84, 0), (2, 122, 0), (2, 100, 0), (2, 132, 0), (11, 2147483648, 2147483668), (11, 2147483648, 2147485248), (1, 0, 4294967296), (0, 0, 0), (11, 2147483648, 2147485248), (2, 93, 0), (2, 104, 0), (11, 2147483648, 2147483678), (2, 89, 0), (2, 92, 0), (2, 119, 0), (2, 90, 0), (2, 94, 0), (2, 103, 0), (11, 2147483648, 2147483688), (11, 2147483648, 2147549184), (11, 0, 4294967295), (13, 2, 2147485249), (0, 4, 0), (11, 2147483648, 2147483668), (2, 85, 0), (11, 0, 4294967295), (5, 0, 0), (2, 95, 0), (2, 96, 0), (2, 97, 0), (2, 98, 0), (2, 99, 0), (2, 101, 0), (2, 102, 0), (2, 105, 0), (2, 106, 0), (2, 107, 0), (2, 108, 0), (2, 109, 0), (2, 110, 0), (2, 111, 0), (11, 2147483648, 2147484768), (11, 2147482048, 2147483655), (11, 2147483648, 2147483738), (11, 2147483648, 2147483678), (11, 0, 4294967295), (11, 0, 4294967295), (11, 0, 4294967295), (11, 0, 4294967295), (11, 0, 4294967295), (2, 113, 0), (2, 116, 0), (2, 117, 0), (2, 121, 0), (11, 0, 4294967295), (11, 0, 4294967295), (2, 124, 0), (2, 125, 0), (11, 0, 4294967295), (2, 126, 0), (2, 127, 0), (2, 128, 0), (2, 129, 0), (2, 130, 0)])
def bn1252 : e2_Q1 := (bc228, bc3)
def bn1253 : e2_Q2 := (bn196, bn1252)
def bn1254 : e2_Q3 := (bn1253, bn201)
def bn1255 : e2_Q4 := (bn195, bn1254)
def bn1256 : e2_Q5 := (bn1255, bn365)
def bn1257 : e2_Q6 := (bn1256, bn250)
def bn1258 : e2_Q7 := (bn736, bn1257)
def bn1259 : e2_Q8 := (bn733, bn1258)
noncomputable def f_b247 : ev_H := (bn1259 : e2_Q8)
def bc229 : ev_C := (10, [(0, 0, 0), (2, 88, 0), (2, 115, 0), (2, 114, 0), (2, 86, 0), (2, 112, 0), (11, 2147483648, 2147483688), (2, 118, 0), (2, 120, 0), (2, 131, 0), (2, 91, 0), (11, 2147483648, 2147483668), (2, 123, 0), (0, 1, 0), (11, 2147483648, 2147485248), (2, 87, 0), (2, 84, 0), (2, 122, 0), (2, 100, 0), (2, 132, 0), (11, 2147483648, 2147483668), (11, 2147483648, 2147485248), (1, 0, 4294967296), (11, 2147483649, 2147483653), (11, 2147483648, 2147485248), (2, 93, 0), (2, 104, 0), (11, 2147483648, 2147483678), (2, 89, 0), (2, 92, 0), (2, 119, 0), (2, 90, 0), (2, 94, 0), (2, 103, 0), (11, 2147483648, 2147483688), (11, 2147483648, 2147549184), (11, 0, 4294967295), (13, 2, 2147485249), (0, 4, 0), (11, 2147483648, 2147483668), (2, 85, 0), (11, 0, 4294967295), (5, 0, 0), (2, 95, 0), (2, 96, 0), (2, 97, 0), (2, 98, 0), (2, 99, 0), (2, 101, 0), (2, 102, 0), (2, 105, 0), (2, 106, 0), (2, 107, 0), (2, 108, 0), (2, 109, 0), (2, 110, 0), (2, 111, 0), (11, 2147483648, 2147484768), (11, 2147482048, 2147483655), (11, 2147483648, 2147483738), (11, 2147483648, 2147483678), (11, 0, 4294967295), (11, 0, 4294967295), (11, 0, 4294967295), (11, 0, 4294967295), (11, 0, 4294967295), (2, 113, 0), (2, 116, 0), (2, 117, 0), (2, 121, 0), (11, 0, 4294967295), (11, 0, 4294967295), (2, 124, 0), (2, 125, 0), (11, 0, 4294967295), (2, 126, 0), (2, 127, 0), (2, 128, 0), (2, 129, 0), (2, 130, 0)])
def bn1260 : e2_Q1 := (bc229, bc3)
def bn1261 : e2_Q2 := (bn196, bn1260)
def bn1262 : e2_Q3 := (bn1261, bn201)
def bn1263 : e2_Q4 := (bn195, bn1262)
def bn1264 : e2_Q5 := (bn1263, bn365)
def bn1265 : e2_Q6 := (bn1264, bn250)
def bn1266 : e2_Q7 := (bn736, bn1265)
def bn1267 : e2_Q8 := (bn733, bn1266)
noncomputable def q_b247_0 : ev_H := (bn1267 : e2_Q8)
noncomputable def rs_b247 : e2_Rs := [((9, 0, 0), q_b247_0)]
noncomputable def s_b247 : e2_Sm := (187, as_b247, E_b247, f_b247, rs_b247)
noncomputable def S_b247 : List e2_Sm := []
noncomputable def I_b247 : List e2_In := [(173, 3, e2x_173), (174, 1, e2x_174), (180, 1, e2x_180)]
set_option maxRecDepth 1000000 in
theorem ck_b247 : e2_run (e2_cal S_b247 I_b247 4000 2) (e2_fin rs_b247) e2x_187 (fun _ => false) (fun _ _ _ _ _ => false) 4000 (e2_seek e2x_187 0) (e2_al 3 as_b247) [] E_b247 f_b247 = true := by decide +kernel
set_option maxRecDepth 1000000 in
theorem co_b247 : e2_okSB E_b247.length as_b247 f_b247 rs_b247 = true := by decide +kernel
theorem cs_b247 (hen : en_ok) (l : Launch) : e2_smOk l 3 s_b247 := e2_con0 (H := 0) (n := 2) (C := evd_187) (S := S_b247) (I := I_b247) (fuel := 4000) [] hen ei_187 e2_fz (e2_fa ein_173 (e2_fa ein_174 (e2_fa ein_180 e2_fz))) (by decide) co_b247 ex2_187 ck_b247
/-! b248 X10_readLine -/
def as_b248 : List ev_V := [(2, 83, 0)]
def E_b248 : e2_E := [(2147483648, 2147583648, 0, 0), (2147483648, 2147483656, 1, 0), (2147483648, 2147485249, 2, 0)]
def bc230 : ev_C := (10, [(0, 0, 0), (2, 88, 0), (2, 115, 0), (2, 114, 0), (2, 86, 0), (2, 112, 0), (11, 2147483648, 2147483688), (2, 118, 0), (2, 120, 0), (2, 131, 0), (2, 91, 0), (11, 2147483648, 2147483668), (2, 123, 0), (0, 1, 0), (11, 2147483648, 2147485248), (2, 87, 0), (2, 84, 0), (2, 122, 0), (2, 100, 0), (2, 132, 0), (11, 2147483648, 2147483668), (11, 2147483648, 2147485248), (1, 0, 4294967296), (0, 0, 0), (11, 2147483648, 2147485248), (2, 93, 0), (2, 104, 0), (11, 2147483648, 2147483678), (2, 89, 0), (2, 92, 0), (2, 119, 0), (2, 90, 0), (2, 94, 0), (2, 103, 0), (11, 2147483648, 2147483688), (11, 2147483648, 2147549184), (11, 0, 4294967295), (13, 2, 2147485249), (0, 5, 0), (11, 2147483648, 2147483668), (2, 85, 0), (11, 0, 4294967295), (5, 0, 0), (2, 95, 0), (2, 96, 0), (2, 97, 0), (2, 98, 0), (2, 99, 0), (2, 101, 0), (2, 102, 0), (2, 105, 0), (2, 106, 0), (2, 107, 0), (2, 108, 0), (2, 109, 0), (2, 110, 0), (2, 111, 0), (11, 2147483648, 2147484768), (11, 2147482048, 2147483655), (11, 2147483648, 2147483738), (11, 2147483648, 2147483678), (11, 0, 4294967295), (11, 0, 4294967295), (11, 0, 4294967295), (11, 0, 4294967295), (11, 0, 4294967295), (2, 113, 0), (2, 116, 0), (2, 117, 0), (2, 121, 0), (11, 0, 4294967295), (11, 0, 4294967295), (2, 124, 0), (2, 125, 0), (11, 0, 4294967295), (2, 126, 0), (2, 127, 0), (2, 128, 0), (2, 129, 0), (2, 130, 0)])
def bn1268 : e2_Q1 := (bc230, bc3)
def bn1269 : e2_Q2 := (bn196, bn1268)
def bn1270 : e2_Q3 := (bn1269, bn201)
def bn1271 : e2_Q4 := (bn195, bn1270)
def bn1272 : e2_Q5 := (bn1271, bn365)
def bn1273 : e2_Q6 := (bn1272, bn250)
def bn1274 : e2_Q7 := (bn736, bn1273)
def bn1275 : e2_Q8 := (bn733, bn1274)
noncomputable def f_b248 : ev_H := (bn1275 : e2_Q8)
def bc231 : ev_C := (10, [(0, 0, 0), (2, 88, 0), (2, 115, 0), (2, 114, 0), (2, 86, 0), (2, 112, 0), (11, 2147483648, 2147483688), (2, 118, 0), (2, 120, 0), (2, 131, 0), (2, 91, 0), (11, 2147483648, 2147483668), (2, 123, 0), (0, 1, 0), (11, 2147483648, 2147485248), (2, 87, 0), (2, 84, 0), (2, 122, 0), (2, 100, 0), (2, 132, 0), (11, 2147483648, 2147483668), (11, 2147483648, 2147485248), (1, 0, 4294967296), (11, 2147483649, 2147483653), (11, 2147483648, 2147485248), (2, 93, 0), (2, 104, 0), (11, 2147483648, 2147483678), (2, 89, 0), (2, 92, 0), (2, 119, 0), (2, 90, 0), (2, 94, 0), (2, 103, 0), (11, 2147483648, 2147483688), (11, 2147483648, 2147549184), (11, 0, 4294967295), (13, 2, 2147485249), (0, 5, 0), (11, 2147483648, 2147483668), (2, 85, 0), (11, 0, 4294967295), (5, 0, 0), (2, 95, 0), (2, 96, 0), (2, 97, 0), (2, 98, 0), (2, 99, 0), (2, 101, 0), (2, 102, 0), (2, 105, 0), (2, 106, 0), (2, 107, 0), (2, 108, 0), (2, 109, 0), (2, 110, 0), (2, 111, 0), (11, 2147483648, 2147484768), (11, 2147482048, 2147483655), (11, 2147483648, 2147483738), (11, 2147483648, 2147483678), (11, 0, 4294967295), (11, 0, 4294967295), (11, 0, 4294967295), (11, 0, 4294967295), (11, 0, 4294967295), (2, 113, 0), (2, 116, 0), (2, 117, 0), (2, 121, 0), (11, 0, 4294967295), (11, 0, 4294967295), (2, 124, 0), (2, 125, 0), (11, 0, 4294967295), (2, 126, 0), (2, 127, 0), (2, 128, 0), (2, 129, 0), (2, 130, 0)])
def bn1276 : e2_Q1 := (bc231, bc3)
def bn1277 : e2_Q2 := (bn196, bn1276)
def bn1278 : e2_Q3 := (bn1277, bn201)
def bn1279 : e2_Q4 := (bn195, bn1278)
def bn1280 : e2_Q5 := (bn1279, bn365)
def bn1281 : e2_Q6 := (bn1280, bn250)
def bn1282 : e2_Q7 := (bn736, bn1281)
def bn1283 : e2_Q8 := (bn733, bn1282)
noncomputable def q_b248_0 : ev_H := (bn1283 : e2_Q8)
noncomputable def rs_b248 : e2_Rs := [((9, 0, 0), q_b248_0)]
noncomputable def s_b248 : e2_Sm := (187, as_b248, E_b248, f_b248, rs_b248)
noncomputable def S_b248 : List e2_Sm := []
noncomputable def I_b248 : List e2_In := [(173, 3, e2x_173), (174, 1, e2x_174), (180, 1, e2x_180)]
set_option maxRecDepth 1000000 in
theorem ck_b248 : e2_run (e2_cal S_b248 I_b248 4000 2) (e2_fin rs_b248) e2x_187 (fun _ => false) (fun _ _ _ _ _ => false) 4000 (e2_seek e2x_187 0) (e2_al 3 as_b248) [] E_b248 f_b248 = true := by decide +kernel
set_option maxRecDepth 1000000 in
theorem co_b248 : e2_okSB E_b248.length as_b248 f_b248 rs_b248 = true := by decide +kernel
theorem cs_b248 (hen : en_ok) (l : Launch) : e2_smOk l 3 s_b248 := e2_con0 (H := 0) (n := 2) (C := evd_187) (S := S_b248) (I := I_b248) (fuel := 4000) [] hen ei_187 e2_fz (e2_fa ein_173 (e2_fa ein_174 (e2_fa ein_180 e2_fz))) (by decide) co_b248 ex2_187 ck_b248
/-! b249 X10_readBarn -/
def as_b249 : List ev_V := [(2, 83, 0)]
def E_b249 : e2_E := [(2147483648, 2147583648, 0, 0), (2147483648, 2147483656, 1, 0), (2147483648, 2147485249, 2, 0)]
def bn1284 : e2_Q5 := (bn767, bn343)
def bn1285 : e2_Q6 := (bn763, bn1284)
def bn1286 : e2_Q7 := (bn732, bn1285)
def bn1287 : e2_Q5 := (bn297, bn790)
def bn1288 : e2_Q6 := (bn1287, bn250)
def bn1289 : e2_Q7 := (bn736, bn1288)
def bn1290 : e2_Q8 := (bn1286, bn1289)
noncomputable def f_b249 : ev_H := (bn1290 : e2_Q8)
def bn1291 : e2_Q5 := (bn373, bn790)
def bn1292 : e2_Q6 := (bn1291, bn250)
def bn1293 : e2_Q7 := (bn736, bn1292)
def bn1294 : e2_Q8 := (bn1286, bn1293)
noncomputable def q_b249_0 : ev_H := (bn1294 : e2_Q8)
noncomputable def rs_b249 : e2_Rs := [((9, 0, 0), q_b249_0)]
noncomputable def s_b249 : e2_Sm := (198, as_b249, E_b249, f_b249, rs_b249)
noncomputable def S_b249 : List e2_Sm := [s_b201]
noncomputable def I_b249 : List e2_In := [(174, 1, e2x_174)]
set_option maxRecDepth 1000000 in
theorem ck_b249 : e2_run (e2_cal S_b249 I_b249 4000 1) (e2_fin rs_b249) e2x_198 (fun _ => false) (fun _ _ _ _ _ => false) 4000 (e2_seek e2x_198 0) (e2_al 3 as_b249) [] E_b249 f_b249 = true := by decide +kernel
set_option maxRecDepth 1000000 in
theorem co_b249 : e2_okSB E_b249.length as_b249 f_b249 rs_b249 = true := by decide +kernel
theorem cs_b249 (hen : en_ok) (l : Launch) : e2_smOk l 5 s_b249 := e2_con0 (H := 3) (n := 1) (C := evd_198) (S := S_b249) (I := I_b249) (fuel := 4000) [] hen ei_198 (e2_fa (cs_b201 hen l) e2_fz) (e2_fa ein_174 e2_fz) (by decide) co_b249 ex2_198 ck_b249
/-! b250 X10_readBarn -/
def as_b250 : List ev_V := [(2, 83, 0)]
def E_b250 : e2_E := [(2147483648, 2147583648, 0, 0), (2147483648, 2147483656, 1, 0), (2147483648, 2147485249, 2, 0)]
def bn1295 : e2_Q5 := (bn321, bn790)
def bn1296 : e2_Q6 := (bn1295, bn250)
def bn1297 : e2_Q7 := (bn736, bn1296)
def bn1298 : e2_Q8 := (bn1286, bn1297)
noncomputable def f_b250 : ev_H := (bn1298 : e2_Q8)
def bn1299 : e2_Q5 := (bn467, bn790)
def bn1300 : e2_Q6 := (bn1299, bn250)
def bn1301 : e2_Q7 := (bn736, bn1300)
def bn1302 : e2_Q8 := (bn1286, bn1301)
noncomputable def q_b250_0 : ev_H := (bn1302 : e2_Q8)
noncomputable def rs_b250 : e2_Rs := [((9, 0, 0), q_b250_0)]
noncomputable def s_b250 : e2_Sm := (198, as_b250, E_b250, f_b250, rs_b250)
noncomputable def S_b250 : List e2_Sm := [s_b204]
noncomputable def I_b250 : List e2_In := [(174, 1, e2x_174)]
set_option maxRecDepth 1000000 in
theorem ck_b250 : e2_run (e2_cal S_b250 I_b250 4000 1) (e2_fin rs_b250) e2x_198 (fun _ => false) (fun _ _ _ _ _ => false) 4000 (e2_seek e2x_198 0) (e2_al 3 as_b250) [] E_b250 f_b250 = true := by decide +kernel
set_option maxRecDepth 1000000 in
theorem co_b250 : e2_okSB E_b250.length as_b250 f_b250 rs_b250 = true := by decide +kernel
theorem cs_b250 (hen : en_ok) (l : Launch) : e2_smOk l 5 s_b250 := e2_con0 (H := 3) (n := 1) (C := evd_198) (S := S_b250) (I := I_b250) (fuel := 4000) [] hen ei_198 (e2_fa (cs_b204 hen l) e2_fz) (e2_fa ein_174 e2_fz) (by decide) co_b250 ex2_198 ck_b250
/-! b251 X10_readBarn -/
def as_b251 : List ev_V := [(2, 83, 0)]
def E_b251 : e2_E := [(2147483648, 2147583648, 0, 0), (2147483648, 2147483656, 1, 0), (2147483648, 2147485249, 2, 0)]
def bn1303 : e2_Q5 := (bn313, bn790)
def bn1304 : e2_Q6 := (bn1303, bn250)
def bn1305 : e2_Q7 := (bn845, bn1304)
def bn1306 : e2_Q8 := (bn1286, bn1305)
noncomputable def f_b251 : ev_H := (bn1306 : e2_Q8)
def bc232 : ev_C := (10, [(0, 0, 0), (2, 88, 0), (2, 115, 0), (2, 114, 0), (2, 86, 0), (2, 112, 0), (11, 2147483648, 2147483688), (2, 118, 0), (2, 120, 0), (2, 131, 0), (2, 91, 0), (11, 2147483648, 2147483668), (2, 123, 0), (0, 1, 0), (11, 2147483648, 2147485248), (2, 87, 0), (2, 84, 0), (2, 122, 0), (2, 100, 0), (2, 132, 0), (11, 2147483648, 2147483668), (11, 2147483648, 2147485248), (1, 0, 4294967296), (11, 2147483649, 2147483653), (13, 2, 2147485247), (2, 93, 0), (2, 104, 0), (11, 2147483648, 2147483678), (2, 89, 0), (2, 92, 0), (2, 119, 0), (2, 90, 0), (2, 94, 0), (2, 103, 0), (11, 2147483648, 2147483688), (11, 2147483648, 2147549184), (13, 2, 2147485247), (13, 2, 2147485248), (0, 1, 0), (11, 2147483648, 2147483668), (2, 85, 0), (11, 0, 4294967295), (5, 0, 0), (2, 95, 0), (2, 96, 0), (2, 97, 0), (2, 98, 0), (2, 99, 0), (2, 101, 0), (2, 102, 0), (2, 105, 0), (2, 106, 0), (2, 107, 0), (2, 108, 0), (2, 109, 0), (2, 110, 0), (2, 111, 0), (11, 2147483648, 2147484768), (11, 2147482048, 2147483655), (11, 2147483648, 2147483738), (11, 2147483648, 2147483678), (11, 0, 4294967295), (11, 0, 4294967295), (11, 0, 4294967295), (11, 0, 4294967295), (11, 0, 4294967295), (2, 113, 0), (2, 116, 0), (2, 117, 0), (2, 121, 0), (11, 0, 4294967295), (11, 0, 4294967295), (2, 124, 0), (2, 125, 0), (11, 0, 4294967295), (2, 126, 0), (2, 127, 0), (2, 128, 0), (2, 129, 0), (2, 130, 0)])
def bn1307 : e2_Q1 := (bc232, bc3)
def bn1308 : e2_Q2 := (bn196, bn1307)
def bn1309 : e2_Q3 := (bn1308, bn201)
def bn1310 : e2_Q4 := (bn195, bn1309)
def bn1311 : e2_Q5 := (bn1310, bn790)
def bn1312 : e2_Q6 := (bn1311, bn250)
def bn1313 : e2_Q7 := (bn845, bn1312)
def bn1314 : e2_Q8 := (bn1286, bn1313)
noncomputable def q_b251_0 : ev_H := (bn1314 : e2_Q8)
def bn1315 : e2_Q5 := (bn911, bn790)
def bn1316 : e2_Q6 := (bn1315, bn250)
def bn1317 : e2_Q7 := (bn845, bn1316)
def bn1318 : e2_Q8 := (bn1286, bn1317)
noncomputable def q_b251_1 : ev_H := (bn1318 : e2_Q8)
def bc233 : ev_C := (10, [(0, 0, 0), (2, 88, 0), (2, 115, 0), (2, 114, 0), (2, 86, 0), (2, 112, 0), (11, 2147483648, 2147483688), (2, 118, 0), (2, 120, 0), (2, 131, 0), (2, 91, 0), (11, 2147483648, 2147483668), (2, 123, 0), (0, 1, 0), (11, 2147483648, 2147485248), (2, 87, 0), (2, 84, 0), (2, 122, 0), (2, 100, 0), (2, 132, 0), (11, 2147483648, 2147483668), (11, 2147483648, 2147485248), (1, 0, 4294967296), (11, 2147483649, 2147483653), (13, 2, 2147485247), (2, 93, 0), (2, 104, 0), (11, 2147483648, 2147483678), (2, 89, 0), (2, 92, 0), (2, 119, 0), (2, 90, 0), (2, 94, 0), (2, 103, 0), (11, 2147483648, 2147483688), (11, 2147483648, 2147549184), (13, 2, 2147485247), (13, 10, 2147485248), (11, 2147483650, 2147483651), (11, 2147483648, 2147483668), (2, 85, 0), (11, 0, 4294967295), (5, 0, 0), (2, 95, 0), (2, 96, 0), (2, 97, 0), (2, 98, 0), (2, 99, 0), (2, 101, 0), (2, 102, 0), (2, 105, 0), (2, 106, 0), (2, 107, 0), (2, 108, 0), (2, 109, 0), (2, 110, 0), (2, 111, 0), (11, 2147483648, 2147484768), (11, 2147482048, 2147483655), (11, 2147483648, 2147483738), (11, 2147483648, 2147483678), (11, 0, 4294967295), (11, 0, 4294967295), (11, 0, 4294967295), (11, 0, 4294967295), (11, 0, 4294967295), (2, 113, 0), (2, 116, 0), (2, 117, 0), (2, 121, 0), (11, 0, 4294967295), (11, 0, 4294967295), (2, 124, 0), (2, 125, 0), (11, 0, 4294967295), (2, 126, 0), (2, 127, 0), (2, 128, 0), (2, 129, 0), (2, 130, 0)])
def bn1319 : e2_Q1 := (bc233, bc3)
def bn1320 : e2_Q2 := (bn196, bn1319)
def bn1321 : e2_Q3 := (bn1320, bn201)
def bn1322 : e2_Q4 := (bn195, bn1321)
def bn1323 : e2_Q5 := (bn1322, bn790)
def bn1324 : e2_Q6 := (bn1323, bn250)
def bn1325 : e2_Q7 := (bn845, bn1324)
def bn1326 : e2_Q8 := (bn1286, bn1325)
noncomputable def q_b251_2 : ev_H := (bn1326 : e2_Q8)
def bn1327 : e2_Q5 := (bn919, bn790)
def bn1328 : e2_Q6 := (bn1327, bn250)
def bn1329 : e2_Q7 := (bn845, bn1328)
def bn1330 : e2_Q8 := (bn1286, bn1329)
noncomputable def q_b251_3 : ev_H := (bn1330 : e2_Q8)
def bn1331 : e2_Q5 := (bn381, bn790)
def bn1332 : e2_Q6 := (bn1331, bn250)
def bn1333 : e2_Q7 := (bn845, bn1332)
def bn1334 : e2_Q8 := (bn1286, bn1333)
noncomputable def q_b251_4 : ev_H := (bn1334 : e2_Q8)
def bn1335 : e2_Q5 := (bn927, bn790)
def bn1336 : e2_Q6 := (bn1335, bn250)
def bn1337 : e2_Q7 := (bn845, bn1336)
def bn1338 : e2_Q8 := (bn1286, bn1337)
noncomputable def q_b251_5 : ev_H := (bn1338 : e2_Q8)
def bc234 : ev_C := (10, [(0, 0, 0), (2, 88, 0), (2, 115, 0), (2, 114, 0), (2, 86, 0), (2, 112, 0), (11, 2147483648, 2147483688), (2, 118, 0), (2, 120, 0), (2, 131, 0), (2, 91, 0), (11, 2147483648, 2147483668), (2, 123, 0), (0, 1, 0), (11, 2147483648, 2147485248), (2, 87, 0), (2, 84, 0), (2, 122, 0), (2, 100, 0), (2, 132, 0), (11, 2147483648, 2147483668), (11, 2147483648, 2147485248), (1, 0, 4294967296), (11, 2147483649, 2147483653), (11, 2147483648, 2147485248), (2, 93, 0), (2, 104, 0), (11, 2147483648, 2147483678), (2, 89, 0), (2, 92, 0), (2, 119, 0), (2, 90, 0), (2, 94, 0), (2, 103, 0), (11, 2147483648, 2147483688), (11, 2147483648, 2147549184), (13, 2, 2147485247), (11, 2147483648, 2147485248), (0, 0, 0), (11, 2147483648, 2147483668), (2, 85, 0), (11, 0, 4294967295), (5, 0, 0), (2, 95, 0), (2, 96, 0), (2, 97, 0), (2, 98, 0), (2, 99, 0), (2, 101, 0), (2, 102, 0), (2, 105, 0), (2, 106, 0), (2, 107, 0), (2, 108, 0), (2, 109, 0), (2, 110, 0), (2, 111, 0), (11, 2147483648, 2147484768), (11, 2147482048, 2147483655), (11, 2147483648, 2147483738), (11, 2147483648, 2147483678), (11, 0, 4294967295), (11, 0, 4294967295), (11, 0, 4294967295), (11, 0, 4294967295), (11, 0, 4294967295), (2, 113, 0), (2, 116, 0), (2, 117, 0), (2, 121, 0), (11, 0, 4294967295), (11, 0, 4294967295), (2, 124, 0), (2, 125, 0), (11, 0, 4294967295), (2, 126, 0), (2, 127, 0), (2, 128, 0), (2, 129, 0), (2, 130, 0)])
def bn1339 : e2_Q1 := (bc234, bc3)
def bn1340 : e2_Q2 := (bn196, bn1339)
def bn1341 : e2_Q3 := (bn1340, bn201)
def bn1342 : e2_Q4 := (bn195, bn1341)
def bn1343 : e2_Q5 := (bn1342, bn790)
def bn1344 : e2_Q6 := (bn1343, bn250)
def bn1345 : e2_Q7 := (bn845, bn1344)
def bn1346 : e2_Q8 := (bn1286, bn1345)
noncomputable def q_b251_6 : ev_H := (bn1346 : e2_Q8)
def bn1347 : e2_Q5 := (bn935, bn790)
def bn1348 : e2_Q6 := (bn1347, bn250)
def bn1349 : e2_Q7 := (bn845, bn1348)
def bn1350 : e2_Q8 := (bn1286, bn1349)
noncomputable def q_b251_7 : ev_H := (bn1350 : e2_Q8)
def bc235 : ev_C := (10, [(0, 0, 0), (2, 88, 0), (2, 115, 0), (2, 114, 0), (2, 86, 0), (2, 112, 0), (11, 2147483648, 2147483688), (2, 118, 0), (2, 120, 0), (2, 131, 0), (2, 91, 0), (11, 2147483648, 2147483668), (2, 123, 0), (0, 1, 0), (11, 2147483648, 2147485248), (2, 87, 0), (2, 84, 0), (2, 122, 0), (2, 100, 0), (2, 132, 0), (11, 2147483648, 2147483668), (11, 2147483648, 2147485248), (1, 0, 4294967296), (11, 2147483649, 2147483653), (13, 2, 2147485247), (2, 93, 0), (2, 104, 0), (11, 2147483648, 2147483678), (2, 89, 0), (2, 92, 0), (2, 119, 0), (2, 90, 0), (2, 94, 0), (2, 103, 0), (11, 2147483648, 2147483688), (11, 2147483648, 2147549184), (13, 2, 2147485247), (13, 10, 2147485248), (0, 5, 0), (11, 2147483648, 2147483668), (2, 85, 0), (11, 0, 4294967295), (5, 0, 0), (2, 95, 0), (2, 96, 0), (2, 97, 0), (2, 98, 0), (2, 99, 0), (2, 101, 0), (2, 102, 0), (2, 105, 0), (2, 106, 0), (2, 107, 0), (2, 108, 0), (2, 109, 0), (2, 110, 0), (2, 111, 0), (11, 2147483648, 2147484768), (11, 2147482048, 2147483655), (11, 2147483648, 2147483738), (11, 2147483648, 2147483678), (11, 0, 4294967295), (11, 0, 4294967295), (11, 0, 4294967295), (11, 0, 4294967295), (11, 0, 4294967295), (2, 113, 0), (2, 116, 0), (2, 117, 0), (2, 121, 0), (11, 0, 4294967295), (11, 0, 4294967295), (2, 124, 0), (2, 125, 0), (11, 0, 4294967295), (2, 126, 0), (2, 127, 0), (2, 128, 0), (2, 129, 0), (2, 130, 0)])
def bn1351 : e2_Q1 := (bc235, bc3)
def bn1352 : e2_Q2 := (bn196, bn1351)
def bn1353 : e2_Q3 := (bn1352, bn201)
def bn1354 : e2_Q4 := (bn195, bn1353)
def bn1355 : e2_Q5 := (bn1354, bn790)
def bn1356 : e2_Q6 := (bn1355, bn250)
def bn1357 : e2_Q7 := (bn845, bn1356)
def bn1358 : e2_Q8 := (bn1286, bn1357)
noncomputable def q_b251_8 : ev_H := (bn1358 : e2_Q8)
def bn1359 : e2_Q5 := (bn943, bn790)
def bn1360 : e2_Q6 := (bn1359, bn250)
def bn1361 : e2_Q7 := (bn845, bn1360)
def bn1362 : e2_Q8 := (bn1286, bn1361)
noncomputable def q_b251_9 : ev_H := (bn1362 : e2_Q8)
noncomputable def rs_b251 : e2_Rs := [((9, 0, 0), q_b251_0), ((9, 0, 0), q_b251_1), ((9, 0, 0), q_b251_2), ((9, 0, 0), q_b251_3), ((9, 0, 0), q_b251_4), ((9, 0, 0), q_b251_5), ((9, 0, 0), q_b251_6), ((9, 0, 0), q_b251_7), ((9, 0, 0), q_b251_8), ((9, 0, 0), q_b251_9)]
noncomputable def s_b251 : e2_Sm := (198, as_b251, E_b251, f_b251, rs_b251)
noncomputable def S_b251 : List e2_Sm := [s_b202]
noncomputable def I_b251 : List e2_In := [(173, 3, e2x_173), (174, 1, e2x_174)]
set_option maxRecDepth 1000000 in
theorem ck_b251 : e2_run (e2_cal S_b251 I_b251 4000 1) (e2_fin rs_b251) e2x_198 (fun _ => false) (fun _ _ _ _ _ => false) 4000 (e2_seek e2x_198 0) (e2_al 3 as_b251) [] E_b251 f_b251 = true := by decide +kernel
set_option maxRecDepth 1000000 in
theorem co_b251 : e2_okSB E_b251.length as_b251 f_b251 rs_b251 = true := by decide +kernel
theorem cs_b251 (hen : en_ok) (l : Launch) : e2_smOk l 7 s_b251 := e2_con0 (H := 5) (n := 1) (C := evd_198) (S := S_b251) (I := I_b251) (fuel := 4000) [] hen ei_198 (e2_fa (cs_b202 hen l) e2_fz) (e2_fa ein_173 (e2_fa ein_174 e2_fz)) (by decide) co_b251 ex2_198 ck_b251
/-! b252 X10_readBarn -/
def as_b252 : List ev_V := [(2, 83, 0)]
def E_b252 : e2_E := [(2147483648, 2147583648, 0, 0), (2147483648, 2147483656, 1, 0), (2147483648, 2147485249, 2, 0)]
def bn1363 : e2_Q5 := (bn203, bn790)
def bn1364 : e2_Q6 := (bn1363, bn250)
def bn1365 : e2_Q7 := (bn736, bn1364)
def bn1366 : e2_Q8 := (bn1286, bn1365)
noncomputable def f_b252 : ev_H := (bn1366 : e2_Q8)
def bn1367 : e2_Q5 := (bn361, bn790)
def bn1368 : e2_Q6 := (bn1367, bn250)
def bn1369 : e2_Q7 := (bn736, bn1368)
def bn1370 : e2_Q8 := (bn1286, bn1369)
noncomputable def q_b252_0 : ev_H := (bn1370 : e2_Q8)
noncomputable def rs_b252 : e2_Rs := [((9, 0, 0), q_b252_0)]
noncomputable def s_b252 : e2_Sm := (198, as_b252, E_b252, f_b252, rs_b252)
noncomputable def S_b252 : List e2_Sm := [s_b200]
noncomputable def I_b252 : List e2_In := [(174, 1, e2x_174)]
set_option maxRecDepth 1000000 in
theorem ck_b252 : e2_run (e2_cal S_b252 I_b252 4000 1) (e2_fin rs_b252) e2x_198 (fun _ => false) (fun _ _ _ _ _ => false) 4000 (e2_seek e2x_198 0) (e2_al 3 as_b252) [] E_b252 f_b252 = true := by decide +kernel
set_option maxRecDepth 1000000 in
theorem co_b252 : e2_okSB E_b252.length as_b252 f_b252 rs_b252 = true := by decide +kernel
theorem cs_b252 (hen : en_ok) (l : Launch) : e2_smOk l 5 s_b252 := e2_con0 (H := 3) (n := 1) (C := evd_198) (S := S_b252) (I := I_b252) (fuel := 4000) [] hen ei_198 (e2_fa (cs_b200 hen l) e2_fz) (e2_fa ein_174 e2_fz) (by decide) co_b252 ex2_198 ck_b252
/-! b253 X10_readBarn -/
def as_b253 : List ev_V := [(2, 83, 0)]
def E_b253 : e2_E := [(2147483648, 2147583648, 0, 0), (2147483648, 2147483656, 1, 0), (2147483648, 2147485249, 2, 0)]
def bn1371 : e2_Q5 := (bn281, bn790)
def bn1372 : e2_Q6 := (bn1371, bn250)
def bn1373 : e2_Q7 := (bn736, bn1372)
def bn1374 : e2_Q8 := (bn1286, bn1373)
noncomputable def f_b253 : ev_H := (bn1374 : e2_Q8)
def bn1375 : e2_Q5 := (bn459, bn790)
def bn1376 : e2_Q6 := (bn1375, bn250)
def bn1377 : e2_Q7 := (bn736, bn1376)
def bn1378 : e2_Q8 := (bn1286, bn1377)
noncomputable def q_b253_0 : ev_H := (bn1378 : e2_Q8)
noncomputable def rs_b253 : e2_Rs := [((9, 0, 0), q_b253_0)]
noncomputable def s_b253 : e2_Sm := (198, as_b253, E_b253, f_b253, rs_b253)
noncomputable def S_b253 : List e2_Sm := [s_b203]
noncomputable def I_b253 : List e2_In := [(174, 1, e2x_174)]
set_option maxRecDepth 1000000 in
theorem ck_b253 : e2_run (e2_cal S_b253 I_b253 4000 1) (e2_fin rs_b253) e2x_198 (fun _ => false) (fun _ _ _ _ _ => false) 4000 (e2_seek e2x_198 0) (e2_al 3 as_b253) [] E_b253 f_b253 = true := by decide +kernel
set_option maxRecDepth 1000000 in
theorem co_b253 : e2_okSB E_b253.length as_b253 f_b253 rs_b253 = true := by decide +kernel
theorem cs_b253 (hen : en_ok) (l : Launch) : e2_smOk l 5 s_b253 := e2_con0 (H := 3) (n := 1) (C := evd_198) (S := S_b253) (I := I_b253) (fuel := 4000) [] hen ei_198 (e2_fa (cs_b203 hen l) e2_fz) (e2_fa ein_174 e2_fz) (by decide) co_b253 ex2_198 ck_b253
/-! b254 X10_fresh -/
def as_b254 : List ev_V := [(2, 83, 0), (0, 4294967295, 0)]
def E_b254 : e2_E := [(2147483648, 2147583648, 0, 0), (2147483648, 2147483656, 1, 0), (2147483648, 2147485249, 2, 0)]
noncomputable def f_b254 : ev_H := (bn1099 : e2_Q8)
noncomputable def q_b254_0 : ev_H := (bn1085 : e2_Q8)
noncomputable def rs_b254 : e2_Rs := [((5, 0, 0), q_b254_0)]
noncomputable def s_b254 : e2_Sm := (191, as_b254, E_b254, f_b254, rs_b254)
noncomputable def S_b254 : List e2_Sm := []
noncomputable def I_b254 : List e2_In := [(173, 3, e2x_173), (174, 1, e2x_174), (180, 1, e2x_180)]
set_option maxRecDepth 1000000 in
theorem ck_b254 : e2_run (e2_cal S_b254 I_b254 4000 2) (e2_fin rs_b254) e2x_191 (fun _ => false) (fun _ _ _ _ _ => false) 4000 (e2_seek e2x_191 0) (e2_al 4 as_b254) [] E_b254 f_b254 = true := by decide +kernel
set_option maxRecDepth 1000000 in
theorem co_b254 : e2_okSB E_b254.length as_b254 f_b254 rs_b254 = true := by decide +kernel
theorem cs_b254 (hen : en_ok) (l : Launch) : e2_smOk l 3 s_b254 := e2_con0 (H := 0) (n := 2) (C := evd_191) (S := S_b254) (I := I_b254) (fuel := 4000) [] hen ei_191 e2_fz (e2_fa ein_173 (e2_fa ein_174 (e2_fa ein_180 e2_fz))) (by decide) co_b254 ex2_191 ck_b254
/-! b255 X10_here -/
def as_b255 : List ev_V := [(2, 83, 0), (2, 106, 0), (0, 8, 0), (11, 2147483648, 2147483656)]
def E_b255 : e2_E := [(2147483648, 2147583648, 0, 0), (2147483648, 2147483656, 1, 0), (2147483648, 2147485249, 2, 0)]
noncomputable def f_b255 : ev_H := (bn1099 : e2_Q8)
noncomputable def q_b255_0 : ev_H := (bn1099 : e2_Q8)
noncomputable def rs_b255 : e2_Rs := [((0, 4294967295, 0), q_b255_0)]
noncomputable def s_b255 : e2_Sm := (188, as_b255, E_b255, f_b255, rs_b255)
noncomputable def S_b255 : List e2_Sm := []
noncomputable def I_b255 : List e2_In := []
set_option maxRecDepth 1000000 in
theorem co_b255 : e2_okSB E_b255.length as_b255 f_b255 rs_b255 = true := by decide +kernel
def al_b255_0 : List ev_V := [(2, 83, 0), (2, 106, 0), (0, 8, 0), (11, 2147483648, 2147483656), (1, 3, 4294967296)]
def E_b255_0 : e2_E := [(2147483648, 2147583648, 0, 0), (2147483648, 2147483656, 1, 0), (2147483648, 2147485249, 2, 0), (2147483648, 2147483656, 3, 0)]
noncomputable def h_b255_0 : ev_H := (bn1099 : e2_Q8)
noncomputable def cl_b255_e : List (Nat × e2_S) := [(3, e2_cutL (al_b255_0.set 4 (11, 2147483648, 2147483656)) 3 (E_b255_0.take 3) h_b255_0)]
set_option maxRecDepth 1000000 in
theorem ck_b255_e : e2_run (e2_cal S_b255 I_b255 4000 0) (e2_fin rs_b255) e2x_188 (e2_bpL cl_b255_e) (e2_cutA cl_b255_e) 4000 (e2_seek e2x_188 0) (e2_al 5 as_b255) [] E_b255 f_b255 = true := by decide +kernel
noncomputable def cl_b255_0 : List (Nat × e2_S) := [(3, e2_cutL (al_b255_0.set 4 (13, 11, 2147483656)) 3 (E_b255_0.take 3) h_b255_0)]
set_option maxRecDepth 1000000 in
theorem ck_b255_0 : e2_runM (e2_cal S_b255 I_b255 4000 0) (e2_fin rs_b255) e2x_188 (e2_bpL cl_b255_0) (e2_cutA cl_b255_0) 4000 (e2_seek e2x_188 3) al_b255_0 [] E_b255_0 h_b255_0 = true := by decide +kernel
set_option maxRecDepth 1000000 in
theorem ci_b255_0 : e2_idl 3 (al_b255_0.set 4 (9, 0, 0)) = true := by decide +kernel
set_option maxRecDepth 1000000 in
theorem cj_b255_0 : e2_idh 3 8 h_b255_0 = true := by decide +kernel
theorem cs_b255 (hen : en_ok) (l : Launch) : e2_smOk l 1 s_b255 := by
  refine e2_conG (H := 0) (n := 0) (C := evd_188) (S := S_b255) (I := I_b255) (fuel := 4000) hen ei_188 e2_fz e2_fz (by decide) co_b255 fun M d _ hC hcall p e R s m args below meth c Q D cA A ads r0 ha hl0 => ?_
  have L_0 : e2_gdM M p l e R s m args below meth c Q D cA A ads r0 3 al_b255_0 [] E_b255_0 h_b255_0 := by
    refine e2_indL (u := 3) (j := 4) (lo := 2147483648) (hi := 2147483656) (b := 3) (dd := 0) hl0 (by decide) rfl rfl (Or.inr ⟨rfl, rfl⟩) rfl ci_b255_0 cj_b255_0 ?_
    intro r_0 k_0 hk_0 hp_0 hs_0 hn_0
    have hl_0 : r_0.length ≤ 4 := hs_0.len rfl
    have ha_0 := ha.ext hp_0
    exact e2_fromM hen ha_0 hcall (e2_cutA_ok (e2_fa (fun al st E h hc => hn_0 al st E h hc) e2_fz)) (hC []) (X := e2x_188) ex2_188 3 ck_b255_0
  have EN_0 := e2_entL (u := 3) (j := 4) (lo := 2147483648) (hi := 2147483656) hl0 rfl rfl rfl ci_b255_0 cj_b255_0 L_0
  exact e2_from hen ha hcall (e2_cutA_ok (e2_fa (fun al st E h hc => EN_0 al st E h hc) e2_fz)) (hC []) (X := e2x_188) ex2_188 0 ck_b255_e
/-! b256 X10_glyphHere -/
def as_b256 : List ev_V := [(2, 83, 0)]
def E_b256 : e2_E := [(2147483648, 2147583648, 0, 0), (2147483648, 2147483656, 1, 0), (2147483648, 2147485249, 2, 0)]
def bn1379 : e2_Q4 := (bn21, bn805)
def bn1380 : e2_Q5 := (bn14, bn1379)
def bn1381 : e2_Q6 := (bn1380, bn338)
def bn1382 : e2_Q7 := (bn1381, bn345)
def bn1383 : e2_Q8 := (bn1382, bn1098)
noncomputable def f_b256 : ev_H := (bn1383 : e2_Q8)
noncomputable def q_b256_0 : ev_H := (bn1383 : e2_Q8)
noncomputable def rs_b256 : e2_Rs := [((0, 4294967295, 0), q_b256_0)]
noncomputable def s_b256 : e2_Sm := (190, as_b256, E_b256, f_b256, rs_b256)
noncomputable def S_b256 : List e2_Sm := [s_b255]
noncomputable def I_b256 : List e2_In := []
set_option maxRecDepth 1000000 in
theorem ck_b256 : e2_run (e2_cal S_b256 I_b256 4000 0) (e2_fin rs_b256) e2x_190 (fun _ => false) (fun _ _ _ _ _ => false) 4000 (e2_seek e2x_190 0) (e2_al 1 as_b256) [] E_b256 f_b256 = true := by decide +kernel
set_option maxRecDepth 1000000 in
theorem co_b256 : e2_okSB E_b256.length as_b256 f_b256 rs_b256 = true := by decide +kernel
theorem cs_b256 (hen : en_ok) (l : Launch) : e2_smOk l 2 s_b256 := e2_con0 (H := 1) (n := 0) (C := evd_190) (S := S_b256) (I := I_b256) (fuel := 4000) [] hen ei_190 (e2_fa (cs_b255 hen l) e2_fz) e2_fz (by decide) co_b256 ex2_190 ck_b256
/-! b257 X10_known -/
def as_b257 : List ev_V := [(2, 83, 0), (0, 4294967295, 0)]
def E_b257 : e2_E := [(2147483648, 2147583648, 0, 0), (2147483648, 2147483656, 1, 0), (2147483648, 2147485249, 2, 0)]
noncomputable def f_b257 : ev_H := (bn1085 : e2_Q8)
noncomputable def q_b257_0 : ev_H := (bn1085 : e2_Q8)
noncomputable def rs_b257 : e2_Rs := [((0, 0, 0), q_b257_0)]
noncomputable def s_b257 : e2_Sm := (192, as_b257, E_b257, f_b257, rs_b257)
noncomputable def S_b257 : List e2_Sm := []
noncomputable def I_b257 : List e2_In := [(174, 1, e2x_174)]
set_option maxRecDepth 1000000 in
theorem ck_b257 : e2_run (e2_cal S_b257 I_b257 4000 1) (e2_fin rs_b257) e2x_192 (fun _ => false) (fun _ _ _ _ _ => false) 4000 (e2_seek e2x_192 0) (e2_al 2 as_b257) [] E_b257 f_b257 = true := by decide +kernel
set_option maxRecDepth 1000000 in
theorem co_b257 : e2_okSB E_b257.length as_b257 f_b257 rs_b257 = true := by decide +kernel
theorem cs_b257 (hen : en_ok) (l : Launch) : e2_smOk l 2 s_b257 := e2_con0 (H := 0) (n := 1) (C := evd_192) (S := S_b257) (I := I_b257) (fuel := 4000) [] hen ei_192 e2_fz (e2_fa ein_174 e2_fz) (by decide) co_b257 ex2_192 ck_b257
/-! b258 X10_here -/
def as_b258 : List ev_V := [(2, 83, 0), (2, 105, 0), (0, 4, 0), (11, 2147483648, 2147483652)]
def E_b258 : e2_E := [(2147483648, 2147583648, 0, 0), (2147483648, 2147483656, 1, 0), (2147483648, 2147485249, 2, 0)]
noncomputable def f_b258 : ev_H := (bn1085 : e2_Q8)
noncomputable def q_b258_0 : ev_H := (bn1085 : e2_Q8)
noncomputable def rs_b258 : e2_Rs := [((0, 4294967295, 0), q_b258_0)]
noncomputable def s_b258 : e2_Sm := (188, as_b258, E_b258, f_b258, rs_b258)
noncomputable def S_b258 : List e2_Sm := []
noncomputable def I_b258 : List e2_In := []
set_option maxRecDepth 1000000 in
theorem co_b258 : e2_okSB E_b258.length as_b258 f_b258 rs_b258 = true := by decide +kernel
def al_b258_0 : List ev_V := [(2, 83, 0), (2, 105, 0), (0, 4, 0), (11, 2147483648, 2147483652), (1, 3, 4294967296)]
def E_b258_0 : e2_E := [(2147483648, 2147583648, 0, 0), (2147483648, 2147483656, 1, 0), (2147483648, 2147485249, 2, 0), (2147483648, 2147483652, 3, 0)]
noncomputable def h_b258_0 : ev_H := (bn1085 : e2_Q8)
noncomputable def cl_b258_e : List (Nat × e2_S) := [(3, e2_cutL (al_b258_0.set 4 (11, 2147483648, 2147483652)) 3 (E_b258_0.take 3) h_b258_0)]
set_option maxRecDepth 1000000 in
theorem ck_b258_e : e2_run (e2_cal S_b258 I_b258 4000 0) (e2_fin rs_b258) e2x_188 (e2_bpL cl_b258_e) (e2_cutA cl_b258_e) 4000 (e2_seek e2x_188 0) (e2_al 5 as_b258) [] E_b258 f_b258 = true := by decide +kernel
noncomputable def cl_b258_0 : List (Nat × e2_S) := [(3, e2_cutL (al_b258_0.set 4 (13, 11, 2147483652)) 3 (E_b258_0.take 3) h_b258_0)]
set_option maxRecDepth 1000000 in
theorem ck_b258_0 : e2_runM (e2_cal S_b258 I_b258 4000 0) (e2_fin rs_b258) e2x_188 (e2_bpL cl_b258_0) (e2_cutA cl_b258_0) 4000 (e2_seek e2x_188 3) al_b258_0 [] E_b258_0 h_b258_0 = true := by decide +kernel
set_option maxRecDepth 1000000 in
theorem ci_b258_0 : e2_idl 3 (al_b258_0.set 4 (9, 0, 0)) = true := by decide +kernel
set_option maxRecDepth 1000000 in
theorem cj_b258_0 : e2_idh 3 8 h_b258_0 = true := by decide +kernel
theorem cs_b258 (hen : en_ok) (l : Launch) : e2_smOk l 1 s_b258 := by
  refine e2_conG (H := 0) (n := 0) (C := evd_188) (S := S_b258) (I := I_b258) (fuel := 4000) hen ei_188 e2_fz e2_fz (by decide) co_b258 fun M d _ hC hcall p e R s m args below meth c Q D cA A ads r0 ha hl0 => ?_
  have L_0 : e2_gdM M p l e R s m args below meth c Q D cA A ads r0 3 al_b258_0 [] E_b258_0 h_b258_0 := by
    refine e2_indL (u := 3) (j := 4) (lo := 2147483648) (hi := 2147483652) (b := 3) (dd := 0) hl0 (by decide) rfl rfl (Or.inr ⟨rfl, rfl⟩) rfl ci_b258_0 cj_b258_0 ?_
    intro r_0 k_0 hk_0 hp_0 hs_0 hn_0
    have hl_0 : r_0.length ≤ 4 := hs_0.len rfl
    have ha_0 := ha.ext hp_0
    exact e2_fromM hen ha_0 hcall (e2_cutA_ok (e2_fa (fun al st E h hc => hn_0 al st E h hc) e2_fz)) (hC []) (X := e2x_188) ex2_188 3 ck_b258_0
  have EN_0 := e2_entL (u := 3) (j := 4) (lo := 2147483648) (hi := 2147483652) hl0 rfl rfl rfl ci_b258_0 cj_b258_0 L_0
  exact e2_from hen ha hcall (e2_cutA_ok (e2_fa (fun al st E h hc => EN_0 al st E h hc) e2_fz)) (hC []) (X := e2x_188) ex2_188 0 ck_b258_e
/-! b259 X10_thingHere -/
def as_b259 : List ev_V := [(2, 83, 0)]
def E_b259 : e2_E := [(2147483648, 2147583648, 0, 0), (2147483648, 2147483656, 1, 0), (2147483648, 2147485249, 2, 0)]
def bn1384 : e2_Q5 := (bn840, bn249)
def bn1385 : e2_Q6 := (bn374, bn1384)
def bn1386 : e2_Q7 := (bn736, bn1385)
def bn1387 : e2_Q8 := (bn733, bn1386)
noncomputable def f_b259 : ev_H := (bn1387 : e2_Q8)
noncomputable def q_b259_0 : ev_H := (bn1387 : e2_Q8)
noncomputable def rs_b259 : e2_Rs := [((0, 4294967295, 0), q_b259_0)]
noncomputable def s_b259 : e2_Sm := (189, as_b259, E_b259, f_b259, rs_b259)
noncomputable def S_b259 : List e2_Sm := [s_b258]
noncomputable def I_b259 : List e2_In := []
set_option maxRecDepth 1000000 in
theorem ck_b259 : e2_run (e2_cal S_b259 I_b259 4000 0) (e2_fin rs_b259) e2x_189 (fun _ => false) (fun _ _ _ _ _ => false) 4000 (e2_seek e2x_189 0) (e2_al 1 as_b259) [] E_b259 f_b259 = true := by decide +kernel
set_option maxRecDepth 1000000 in
theorem co_b259 : e2_okSB E_b259.length as_b259 f_b259 rs_b259 = true := by decide +kernel
theorem cs_b259 (hen : en_ok) (l : Launch) : e2_smOk l 2 s_b259 := e2_con0 (H := 1) (n := 0) (C := evd_189) (S := S_b259) (I := I_b259) (fuel := 4000) [] hen ei_189 (e2_fa (cs_b258 hen l) e2_fz) e2_fz (by decide) co_b259 ex2_189 ck_b259
/-! b260 X10_readGlyph -/
def as_b260 : List ev_V := [(2, 83, 0)]
def E_b260 : e2_E := [(2147483648, 2147583648, 0, 0), (2147483648, 2147483656, 1, 0), (2147483648, 2147485249, 2, 0)]
def bn1388 : e2_Q5 := (bn329, bn1379)
def bn1389 : e2_Q6 := (bn1388, bn338)
def bc236 : ev_C := (50, [(11, 2147483648, 2147483651), (11, 2147483648, 2147483651), (11, 2147483648, 2147483651), (11, 2147483648, 2147483651), (11, 2147483648, 2147483651), (11, 2147483648, 2147483651), (11, 2147483648, 2147483651), (11, 2147483648, 2147483651), (11, 2147483648, 2147483651), (11, 2147483648, 2147483651), (11, 2147483648, 2147483651), (11, 2147483648, 2147483651), (11, 2147483648, 2147483651), (11, 2147483648, 2147483651), (11, 2147483648, 2147483651), (11, 2147483648, 2147483651)])
def bn1390 : e2_Q1 := (bc236, bc3)
def bn1391 : e2_Q2 := (bn66, bn1390)
def bn1392 : e2_Q3 := (bn65, bn1391)
def bn1393 : e2_Q4 := (bn1392, bn76)
def bc237 : ev_C := (53, [(0, 16, 0)])
def bn1394 : e2_Q1 := (bc237, bc3)
def bn1395 : e2_Q2 := (bn81, bn1394)
def bn1396 : e2_Q3 := (bn80, bn1395)
def bn1397 : e2_Q4 := (bn1396, bn91)
def bn1398 : e2_Q5 := (bn1393, bn1397)
def bn1399 : e2_Q6 := (bn1398, bn344)
def bn1400 : e2_Q7 := (bn1389, bn1399)
def bn1401 : e2_Q2 := (bn192, bn326)
def bn1402 : e2_Q3 := (bn191, bn1401)
def bn1403 : e2_Q4 := (bn1402, bn296)
def bn1404 : e2_Q5 := (bn1403, bn365)
def bn1405 : e2_Q6 := (bn1404, bn1384)
def bn1406 : e2_Q7 := (bn357, bn1405)
def bn1407 : e2_Q8 := (bn1400, bn1406)
noncomputable def f_b260 : ev_H := (bn1407 : e2_Q8)
def bc238 : ev_C := (50, [(1, 1, 4294967296), (0, 1, 0)])
def bn1408 : e2_Q1 := (bc238, bc3)
def bn1409 : e2_Q2 := (bn22, bn1408)
def bn1410 : e2_Q3 := (bn1409, bn27)
def bn1411 : e2_Q4 := (bn21, bn1410)
def bn1412 : e2_Q5 := (bn329, bn1411)
def bn1413 : e2_Q6 := (bn1412, bn338)
def bn1414 : e2_Q7 := (bn1413, bn1399)
def bn1415 : e2_Q4 := (bn1402, bn372)
def bn1416 : e2_Q5 := (bn1415, bn365)
def bn1417 : e2_Q6 := (bn1416, bn1384)
def bn1418 : e2_Q7 := (bn357, bn1417)
def bn1419 : e2_Q8 := (bn1414, bn1418)
noncomputable def q_b260_0 : ev_H := (bn1419 : e2_Q8)
noncomputable def rs_b260 : e2_Rs := [((9, 0, 0), q_b260_0)]
noncomputable def s_b260 : e2_Sm := (196, as_b260, E_b260, f_b260, rs_b260)
noncomputable def S_b260 : List e2_Sm := [s_b17, s_b179, s_b233, s_b254, s_b256, s_b257, s_b259]
noncomputable def I_b260 : List e2_In := [(179, 3, e2x_179)]
set_option maxRecDepth 1000000 in
theorem ck_b260 : e2_run (e2_cal S_b260 I_b260 4000 1) (e2_fin rs_b260) e2x_196 (fun _ => false) (fun _ _ _ _ _ => false) 4000 (e2_seek e2x_196 0) (e2_al 2 as_b260) [] E_b260 f_b260 = true := by decide +kernel
set_option maxRecDepth 1000000 in
theorem co_b260 : e2_okSB E_b260.length as_b260 f_b260 rs_b260 = true := by decide +kernel
theorem cs_b260 (hen : en_ok) (l : Launch) (hh : e2_hand_b l) : e2_smOk l 62 s_b260 := e2_con0 (H := 60) (n := 1) (C := evd_196) (S := S_b260) (I := I_b260) (fuel := 4000) [] hen ei_196 (e2_fa (hh _ hm_b17) (e2_fa ((cs_b179 hen l).mono (by decide)) (e2_fa ((cs_b233 hen l).mono (by decide)) (e2_fa ((cs_b254 hen l).mono (by decide)) (e2_fa ((cs_b256 hen l).mono (by decide)) (e2_fa ((cs_b257 hen l).mono (by decide)) (e2_fa ((cs_b259 hen l).mono (by decide)) e2_fz))))))) (e2_fa ein_179 e2_fz) (by decide) co_b260 ex2_196 ck_b260
/-! b261 X10_fresh -/
def as_b261 : List ev_V := [(2, 83, 0), (0, 4294967295, 0)]
def E_b261 : e2_E := [(2147483648, 2147583648, 0, 0), (2147483648, 2147483656, 1, 0), (2147483648, 2147485249, 2, 0)]
noncomputable def f_b261 : ev_H := (bn1089 : e2_Q8)
noncomputable def q_b261_0 : ev_H := (bn1091 : e2_Q8)
noncomputable def rs_b261 : e2_Rs := [((5, 0, 0), q_b261_0)]
noncomputable def s_b261 : e2_Sm := (191, as_b261, E_b261, f_b261, rs_b261)
noncomputable def S_b261 : List e2_Sm := []
noncomputable def I_b261 : List e2_In := [(173, 3, e2x_173), (174, 1, e2x_174), (180, 1, e2x_180)]
set_option maxRecDepth 1000000 in
theorem ck_b261 : e2_run (e2_cal S_b261 I_b261 4000 2) (e2_fin rs_b261) e2x_191 (fun _ => false) (fun _ _ _ _ _ => false) 4000 (e2_seek e2x_191 0) (e2_al 4 as_b261) [] E_b261 f_b261 = true := by decide +kernel
set_option maxRecDepth 1000000 in
theorem co_b261 : e2_okSB E_b261.length as_b261 f_b261 rs_b261 = true := by decide +kernel
theorem cs_b261 (hen : en_ok) (l : Launch) : e2_smOk l 3 s_b261 := e2_con0 (H := 0) (n := 2) (C := evd_191) (S := S_b261) (I := I_b261) (fuel := 4000) [] hen ei_191 e2_fz (e2_fa ein_173 (e2_fa ein_174 (e2_fa ein_180 e2_fz))) (by decide) co_b261 ex2_191 ck_b261
/-! b262 X10_here -/
def as_b262 : List ev_V := [(2, 83, 0), (2, 106, 0), (0, 8, 0), (11, 2147483648, 2147483656)]
def E_b262 : e2_E := [(2147483648, 2147583648, 0, 0), (2147483648, 2147483656, 1, 0), (2147483648, 2147485249, 2, 0)]
noncomputable def f_b262 : ev_H := (bn1089 : e2_Q8)
noncomputable def q_b262_0 : ev_H := (bn1089 : e2_Q8)
noncomputable def rs_b262 : e2_Rs := [((0, 4294967295, 0), q_b262_0)]
noncomputable def s_b262 : e2_Sm := (188, as_b262, E_b262, f_b262, rs_b262)
noncomputable def S_b262 : List e2_Sm := []
noncomputable def I_b262 : List e2_In := []
set_option maxRecDepth 1000000 in
theorem co_b262 : e2_okSB E_b262.length as_b262 f_b262 rs_b262 = true := by decide +kernel
def al_b262_0 : List ev_V := [(2, 83, 0), (2, 106, 0), (0, 8, 0), (11, 2147483648, 2147483656), (1, 3, 4294967296)]
def E_b262_0 : e2_E := [(2147483648, 2147583648, 0, 0), (2147483648, 2147483656, 1, 0), (2147483648, 2147485249, 2, 0), (2147483648, 2147483656, 3, 0)]
noncomputable def h_b262_0 : ev_H := (bn1089 : e2_Q8)
noncomputable def cl_b262_e : List (Nat × e2_S) := [(3, e2_cutL (al_b262_0.set 4 (11, 2147483648, 2147483656)) 3 (E_b262_0.take 3) h_b262_0)]
set_option maxRecDepth 1000000 in
theorem ck_b262_e : e2_run (e2_cal S_b262 I_b262 4000 0) (e2_fin rs_b262) e2x_188 (e2_bpL cl_b262_e) (e2_cutA cl_b262_e) 4000 (e2_seek e2x_188 0) (e2_al 5 as_b262) [] E_b262 f_b262 = true := by decide +kernel
noncomputable def cl_b262_0 : List (Nat × e2_S) := [(3, e2_cutL (al_b262_0.set 4 (13, 11, 2147483656)) 3 (E_b262_0.take 3) h_b262_0)]
set_option maxRecDepth 1000000 in
theorem ck_b262_0 : e2_runM (e2_cal S_b262 I_b262 4000 0) (e2_fin rs_b262) e2x_188 (e2_bpL cl_b262_0) (e2_cutA cl_b262_0) 4000 (e2_seek e2x_188 3) al_b262_0 [] E_b262_0 h_b262_0 = true := by decide +kernel
set_option maxRecDepth 1000000 in
theorem ci_b262_0 : e2_idl 3 (al_b262_0.set 4 (9, 0, 0)) = true := by decide +kernel
set_option maxRecDepth 1000000 in
theorem cj_b262_0 : e2_idh 3 8 h_b262_0 = true := by decide +kernel
theorem cs_b262 (hen : en_ok) (l : Launch) : e2_smOk l 1 s_b262 := by
  refine e2_conG (H := 0) (n := 0) (C := evd_188) (S := S_b262) (I := I_b262) (fuel := 4000) hen ei_188 e2_fz e2_fz (by decide) co_b262 fun M d _ hC hcall p e R s m args below meth c Q D cA A ads r0 ha hl0 => ?_
  have L_0 : e2_gdM M p l e R s m args below meth c Q D cA A ads r0 3 al_b262_0 [] E_b262_0 h_b262_0 := by
    refine e2_indL (u := 3) (j := 4) (lo := 2147483648) (hi := 2147483656) (b := 3) (dd := 0) hl0 (by decide) rfl rfl (Or.inr ⟨rfl, rfl⟩) rfl ci_b262_0 cj_b262_0 ?_
    intro r_0 k_0 hk_0 hp_0 hs_0 hn_0
    have hl_0 : r_0.length ≤ 4 := hs_0.len rfl
    have ha_0 := ha.ext hp_0
    exact e2_fromM hen ha_0 hcall (e2_cutA_ok (e2_fa (fun al st E h hc => hn_0 al st E h hc) e2_fz)) (hC []) (X := e2x_188) ex2_188 3 ck_b262_0
  have EN_0 := e2_entL (u := 3) (j := 4) (lo := 2147483648) (hi := 2147483656) hl0 rfl rfl rfl ci_b262_0 cj_b262_0 L_0
  exact e2_from hen ha hcall (e2_cutA_ok (e2_fa (fun al st E h hc => EN_0 al st E h hc) e2_fz)) (hC []) (X := e2x_188) ex2_188 0 ck_b262_e
/-! b263 X10_glyphHere -/
def as_b263 : List ev_V := [(2, 83, 0)]
def E_b263 : e2_E := [(2147483648, 2147583648, 0, 0), (2147483648, 2147483656, 1, 0), (2147483648, 2147485249, 2, 0)]
def bn1420 : e2_Q8 := (bn1382, bn1088)
noncomputable def f_b263 : ev_H := (bn1420 : e2_Q8)
noncomputable def q_b263_0 : ev_H := (bn1420 : e2_Q8)
noncomputable def rs_b263 : e2_Rs := [((0, 4294967295, 0), q_b263_0)]
noncomputable def s_b263 : e2_Sm := (190, as_b263, E_b263, f_b263, rs_b263)
noncomputable def S_b263 : List e2_Sm := [s_b262]
noncomputable def I_b263 : List e2_In := []
set_option maxRecDepth 1000000 in
theorem ck_b263 : e2_run (e2_cal S_b263 I_b263 4000 0) (e2_fin rs_b263) e2x_190 (fun _ => false) (fun _ _ _ _ _ => false) 4000 (e2_seek e2x_190 0) (e2_al 1 as_b263) [] E_b263 f_b263 = true := by decide +kernel
set_option maxRecDepth 1000000 in
theorem co_b263 : e2_okSB E_b263.length as_b263 f_b263 rs_b263 = true := by decide +kernel
theorem cs_b263 (hen : en_ok) (l : Launch) : e2_smOk l 2 s_b263 := e2_con0 (H := 1) (n := 0) (C := evd_190) (S := S_b263) (I := I_b263) (fuel := 4000) [] hen ei_190 (e2_fa (cs_b262 hen l) e2_fz) e2_fz (by decide) co_b263 ex2_190 ck_b263
/-! b264 X10_known -/
def as_b264 : List ev_V := [(2, 83, 0), (0, 4294967295, 0)]
def E_b264 : e2_E := [(2147483648, 2147583648, 0, 0), (2147483648, 2147483656, 1, 0), (2147483648, 2147485249, 2, 0)]
noncomputable def f_b264 : ev_H := (bn1091 : e2_Q8)
noncomputable def q_b264_0 : ev_H := (bn1091 : e2_Q8)
noncomputable def rs_b264 : e2_Rs := [((0, 0, 0), q_b264_0)]
noncomputable def s_b264 : e2_Sm := (192, as_b264, E_b264, f_b264, rs_b264)
noncomputable def S_b264 : List e2_Sm := []
noncomputable def I_b264 : List e2_In := [(174, 1, e2x_174)]
set_option maxRecDepth 1000000 in
theorem ck_b264 : e2_run (e2_cal S_b264 I_b264 4000 1) (e2_fin rs_b264) e2x_192 (fun _ => false) (fun _ _ _ _ _ => false) 4000 (e2_seek e2x_192 0) (e2_al 2 as_b264) [] E_b264 f_b264 = true := by decide +kernel
set_option maxRecDepth 1000000 in
theorem co_b264 : e2_okSB E_b264.length as_b264 f_b264 rs_b264 = true := by decide +kernel
theorem cs_b264 (hen : en_ok) (l : Launch) : e2_smOk l 2 s_b264 := e2_con0 (H := 0) (n := 1) (C := evd_192) (S := S_b264) (I := I_b264) (fuel := 4000) [] hen ei_192 e2_fz (e2_fa ein_174 e2_fz) (by decide) co_b264 ex2_192 ck_b264
/-! b265 X10_here -/
def as_b265 : List ev_V := [(2, 83, 0), (2, 105, 0), (0, 4, 0), (11, 2147483648, 2147483652)]
def E_b265 : e2_E := [(2147483648, 2147583648, 0, 0), (2147483648, 2147483656, 1, 0), (2147483648, 2147485249, 2, 0)]
noncomputable def f_b265 : ev_H := (bn1091 : e2_Q8)
noncomputable def q_b265_0 : ev_H := (bn1091 : e2_Q8)
noncomputable def rs_b265 : e2_Rs := [((0, 4294967295, 0), q_b265_0)]
noncomputable def s_b265 : e2_Sm := (188, as_b265, E_b265, f_b265, rs_b265)
noncomputable def S_b265 : List e2_Sm := []
noncomputable def I_b265 : List e2_In := []
set_option maxRecDepth 1000000 in
theorem co_b265 : e2_okSB E_b265.length as_b265 f_b265 rs_b265 = true := by decide +kernel
def al_b265_0 : List ev_V := [(2, 83, 0), (2, 105, 0), (0, 4, 0), (11, 2147483648, 2147483652), (1, 3, 4294967296)]
def E_b265_0 : e2_E := [(2147483648, 2147583648, 0, 0), (2147483648, 2147483656, 1, 0), (2147483648, 2147485249, 2, 0), (2147483648, 2147483652, 3, 0)]
noncomputable def h_b265_0 : ev_H := (bn1091 : e2_Q8)
noncomputable def cl_b265_e : List (Nat × e2_S) := [(3, e2_cutL (al_b265_0.set 4 (11, 2147483648, 2147483652)) 3 (E_b265_0.take 3) h_b265_0)]
set_option maxRecDepth 1000000 in
theorem ck_b265_e : e2_run (e2_cal S_b265 I_b265 4000 0) (e2_fin rs_b265) e2x_188 (e2_bpL cl_b265_e) (e2_cutA cl_b265_e) 4000 (e2_seek e2x_188 0) (e2_al 5 as_b265) [] E_b265 f_b265 = true := by decide +kernel
noncomputable def cl_b265_0 : List (Nat × e2_S) := [(3, e2_cutL (al_b265_0.set 4 (13, 11, 2147483652)) 3 (E_b265_0.take 3) h_b265_0)]
set_option maxRecDepth 1000000 in
theorem ck_b265_0 : e2_runM (e2_cal S_b265 I_b265 4000 0) (e2_fin rs_b265) e2x_188 (e2_bpL cl_b265_0) (e2_cutA cl_b265_0) 4000 (e2_seek e2x_188 3) al_b265_0 [] E_b265_0 h_b265_0 = true := by decide +kernel
set_option maxRecDepth 1000000 in
theorem ci_b265_0 : e2_idl 3 (al_b265_0.set 4 (9, 0, 0)) = true := by decide +kernel
set_option maxRecDepth 1000000 in
theorem cj_b265_0 : e2_idh 3 8 h_b265_0 = true := by decide +kernel
theorem cs_b265 (hen : en_ok) (l : Launch) : e2_smOk l 1 s_b265 := by
  refine e2_conG (H := 0) (n := 0) (C := evd_188) (S := S_b265) (I := I_b265) (fuel := 4000) hen ei_188 e2_fz e2_fz (by decide) co_b265 fun M d _ hC hcall p e R s m args below meth c Q D cA A ads r0 ha hl0 => ?_
  have L_0 : e2_gdM M p l e R s m args below meth c Q D cA A ads r0 3 al_b265_0 [] E_b265_0 h_b265_0 := by
    refine e2_indL (u := 3) (j := 4) (lo := 2147483648) (hi := 2147483652) (b := 3) (dd := 0) hl0 (by decide) rfl rfl (Or.inr ⟨rfl, rfl⟩) rfl ci_b265_0 cj_b265_0 ?_
    intro r_0 k_0 hk_0 hp_0 hs_0 hn_0
    have hl_0 : r_0.length ≤ 4 := hs_0.len rfl
    have ha_0 := ha.ext hp_0
    exact e2_fromM hen ha_0 hcall (e2_cutA_ok (e2_fa (fun al st E h hc => hn_0 al st E h hc) e2_fz)) (hC []) (X := e2x_188) ex2_188 3 ck_b265_0
  have EN_0 := e2_entL (u := 3) (j := 4) (lo := 2147483648) (hi := 2147483652) hl0 rfl rfl rfl ci_b265_0 cj_b265_0 L_0
  exact e2_from hen ha hcall (e2_cutA_ok (e2_fa (fun al st E h hc => EN_0 al st E h hc) e2_fz)) (hC []) (X := e2x_188) ex2_188 0 ck_b265_e
/-! b266 X10_thingHere -/
def as_b266 : List ev_V := [(2, 83, 0)]
def E_b266 : e2_E := [(2147483648, 2147583648, 0, 0), (2147483648, 2147483656, 1, 0), (2147483648, 2147485249, 2, 0)]
def bn1421 : e2_Q6 := (bn468, bn1384)
def bn1422 : e2_Q7 := (bn736, bn1421)
def bn1423 : e2_Q8 := (bn733, bn1422)
noncomputable def f_b266 : ev_H := (bn1423 : e2_Q8)
noncomputable def q_b266_0 : ev_H := (bn1423 : e2_Q8)
noncomputable def rs_b266 : e2_Rs := [((0, 4294967295, 0), q_b266_0)]
noncomputable def s_b266 : e2_Sm := (189, as_b266, E_b266, f_b266, rs_b266)
noncomputable def S_b266 : List e2_Sm := [s_b265]
noncomputable def I_b266 : List e2_In := []
set_option maxRecDepth 1000000 in
theorem ck_b266 : e2_run (e2_cal S_b266 I_b266 4000 0) (e2_fin rs_b266) e2x_189 (fun _ => false) (fun _ _ _ _ _ => false) 4000 (e2_seek e2x_189 0) (e2_al 1 as_b266) [] E_b266 f_b266 = true := by decide +kernel
set_option maxRecDepth 1000000 in
theorem co_b266 : e2_okSB E_b266.length as_b266 f_b266 rs_b266 = true := by decide +kernel
theorem cs_b266 (hen : en_ok) (l : Launch) : e2_smOk l 2 s_b266 := e2_con0 (H := 1) (n := 0) (C := evd_189) (S := S_b266) (I := I_b266) (fuel := 4000) [] hen ei_189 (e2_fa (cs_b265 hen l) e2_fz) e2_fz (by decide) co_b266 ex2_189 ck_b266
/-! b267 X10_readGlyph -/
def as_b267 : List ev_V := [(2, 83, 0)]
def E_b267 : e2_E := [(2147483648, 2147583648, 0, 0), (2147483648, 2147483656, 1, 0), (2147483648, 2147485249, 2, 0)]
def bn1424 : e2_Q4 := (bn1402, bn320)
def bn1425 : e2_Q5 := (bn1424, bn365)
def bn1426 : e2_Q6 := (bn1425, bn1384)
def bn1427 : e2_Q7 := (bn357, bn1426)
def bn1428 : e2_Q8 := (bn1400, bn1427)
noncomputable def f_b267 : ev_H := (bn1428 : e2_Q8)
def bn1429 : e2_Q4 := (bn1402, bn466)
def bn1430 : e2_Q5 := (bn1429, bn365)
def bn1431 : e2_Q6 := (bn1430, bn1384)
def bn1432 : e2_Q7 := (bn357, bn1431)
def bn1433 : e2_Q8 := (bn1414, bn1432)
noncomputable def q_b267_0 : ev_H := (bn1433 : e2_Q8)
noncomputable def rs_b267 : e2_Rs := [((9, 0, 0), q_b267_0)]
noncomputable def s_b267 : e2_Sm := (196, as_b267, E_b267, f_b267, rs_b267)
noncomputable def S_b267 : List e2_Sm := [s_b25, s_b187, s_b245, s_b261, s_b263, s_b264, s_b266]
noncomputable def I_b267 : List e2_In := [(179, 3, e2x_179)]
set_option maxRecDepth 1000000 in
theorem ck_b267 : e2_run (e2_cal S_b267 I_b267 4000 1) (e2_fin rs_b267) e2x_196 (fun _ => false) (fun _ _ _ _ _ => false) 4000 (e2_seek e2x_196 0) (e2_al 2 as_b267) [] E_b267 f_b267 = true := by decide +kernel
set_option maxRecDepth 1000000 in
theorem co_b267 : e2_okSB E_b267.length as_b267 f_b267 rs_b267 = true := by decide +kernel
theorem cs_b267 (hen : en_ok) (l : Launch) (hh : e2_hand_b l) : e2_smOk l 62 s_b267 := e2_con0 (H := 60) (n := 1) (C := evd_196) (S := S_b267) (I := I_b267) (fuel := 4000) [] hen ei_196 (e2_fa (hh _ hm_b25) (e2_fa ((cs_b187 hen l).mono (by decide)) (e2_fa ((cs_b245 hen l).mono (by decide)) (e2_fa ((cs_b261 hen l).mono (by decide)) (e2_fa ((cs_b263 hen l).mono (by decide)) (e2_fa ((cs_b264 hen l).mono (by decide)) (e2_fa ((cs_b266 hen l).mono (by decide)) e2_fz))))))) (e2_fa ein_179 e2_fz) (by decide) co_b267 ex2_196 ck_b267
/-! b268 X10_fresh -/
def as_b268 : List ev_V := [(2, 83, 0), (0, 4294967295, 0)]
def E_b268 : e2_E := [(2147483648, 2147583648, 0, 0), (2147483648, 2147483656, 1, 0), (2147483648, 2147485249, 2, 0)]
noncomputable def f_b268 : ev_H := (bn1095 : e2_Q8)
noncomputable def q_b268_0 : ev_H := (bn1097 : e2_Q8)
noncomputable def rs_b268 : e2_Rs := [((5, 0, 0), q_b268_0)]
noncomputable def s_b268 : e2_Sm := (191, as_b268, E_b268, f_b268, rs_b268)
noncomputable def S_b268 : List e2_Sm := []
noncomputable def I_b268 : List e2_In := [(173, 3, e2x_173), (174, 1, e2x_174), (180, 1, e2x_180)]
set_option maxRecDepth 1000000 in
theorem ck_b268 : e2_run (e2_cal S_b268 I_b268 4000 2) (e2_fin rs_b268) e2x_191 (fun _ => false) (fun _ _ _ _ _ => false) 4000 (e2_seek e2x_191 0) (e2_al 4 as_b268) [] E_b268 f_b268 = true := by decide +kernel
set_option maxRecDepth 1000000 in
theorem co_b268 : e2_okSB E_b268.length as_b268 f_b268 rs_b268 = true := by decide +kernel
theorem cs_b268 (hen : en_ok) (l : Launch) : e2_smOk l 3 s_b268 := e2_con0 (H := 0) (n := 2) (C := evd_191) (S := S_b268) (I := I_b268) (fuel := 4000) [] hen ei_191 e2_fz (e2_fa ein_173 (e2_fa ein_174 (e2_fa ein_180 e2_fz))) (by decide) co_b268 ex2_191 ck_b268
/-! b269 X10_here -/
def as_b269 : List ev_V := [(2, 83, 0), (2, 106, 0), (0, 8, 0), (11, 2147483648, 2147483656)]
def E_b269 : e2_E := [(2147483648, 2147583648, 0, 0), (2147483648, 2147483656, 1, 0), (2147483648, 2147485249, 2, 0)]
noncomputable def f_b269 : ev_H := (bn1095 : e2_Q8)
noncomputable def q_b269_0 : ev_H := (bn1095 : e2_Q8)
noncomputable def rs_b269 : e2_Rs := [((0, 4294967295, 0), q_b269_0)]
noncomputable def s_b269 : e2_Sm := (188, as_b269, E_b269, f_b269, rs_b269)
noncomputable def S_b269 : List e2_Sm := []
noncomputable def I_b269 : List e2_In := []
set_option maxRecDepth 1000000 in
theorem co_b269 : e2_okSB E_b269.length as_b269 f_b269 rs_b269 = true := by decide +kernel
def al_b269_0 : List ev_V := [(2, 83, 0), (2, 106, 0), (0, 8, 0), (11, 2147483648, 2147483656), (1, 3, 4294967296)]
def E_b269_0 : e2_E := [(2147483648, 2147583648, 0, 0), (2147483648, 2147483656, 1, 0), (2147483648, 2147485249, 2, 0), (2147483648, 2147483656, 3, 0)]
noncomputable def h_b269_0 : ev_H := (bn1095 : e2_Q8)
noncomputable def cl_b269_e : List (Nat × e2_S) := [(3, e2_cutL (al_b269_0.set 4 (11, 2147483648, 2147483656)) 3 (E_b269_0.take 3) h_b269_0)]
set_option maxRecDepth 1000000 in
theorem ck_b269_e : e2_run (e2_cal S_b269 I_b269 4000 0) (e2_fin rs_b269) e2x_188 (e2_bpL cl_b269_e) (e2_cutA cl_b269_e) 4000 (e2_seek e2x_188 0) (e2_al 5 as_b269) [] E_b269 f_b269 = true := by decide +kernel
noncomputable def cl_b269_0 : List (Nat × e2_S) := [(3, e2_cutL (al_b269_0.set 4 (13, 11, 2147483656)) 3 (E_b269_0.take 3) h_b269_0)]
set_option maxRecDepth 1000000 in
theorem ck_b269_0 : e2_runM (e2_cal S_b269 I_b269 4000 0) (e2_fin rs_b269) e2x_188 (e2_bpL cl_b269_0) (e2_cutA cl_b269_0) 4000 (e2_seek e2x_188 3) al_b269_0 [] E_b269_0 h_b269_0 = true := by decide +kernel
set_option maxRecDepth 1000000 in
theorem ci_b269_0 : e2_idl 3 (al_b269_0.set 4 (9, 0, 0)) = true := by decide +kernel
set_option maxRecDepth 1000000 in
theorem cj_b269_0 : e2_idh 3 8 h_b269_0 = true := by decide +kernel
theorem cs_b269 (hen : en_ok) (l : Launch) : e2_smOk l 1 s_b269 := by
  refine e2_conG (H := 0) (n := 0) (C := evd_188) (S := S_b269) (I := I_b269) (fuel := 4000) hen ei_188 e2_fz e2_fz (by decide) co_b269 fun M d _ hC hcall p e R s m args below meth c Q D cA A ads r0 ha hl0 => ?_
  have L_0 : e2_gdM M p l e R s m args below meth c Q D cA A ads r0 3 al_b269_0 [] E_b269_0 h_b269_0 := by
    refine e2_indL (u := 3) (j := 4) (lo := 2147483648) (hi := 2147483656) (b := 3) (dd := 0) hl0 (by decide) rfl rfl (Or.inr ⟨rfl, rfl⟩) rfl ci_b269_0 cj_b269_0 ?_
    intro r_0 k_0 hk_0 hp_0 hs_0 hn_0
    have hl_0 : r_0.length ≤ 4 := hs_0.len rfl
    have ha_0 := ha.ext hp_0
    exact e2_fromM hen ha_0 hcall (e2_cutA_ok (e2_fa (fun al st E h hc => hn_0 al st E h hc) e2_fz)) (hC []) (X := e2x_188) ex2_188 3 ck_b269_0
  have EN_0 := e2_entL (u := 3) (j := 4) (lo := 2147483648) (hi := 2147483656) hl0 rfl rfl rfl ci_b269_0 cj_b269_0 L_0
  exact e2_from hen ha hcall (e2_cutA_ok (e2_fa (fun al st E h hc => EN_0 al st E h hc) e2_fz)) (hC []) (X := e2x_188) ex2_188 0 ck_b269_e
/-! b270 X10_glyphHere -/
def as_b270 : List ev_V := [(2, 83, 0)]
def E_b270 : e2_E := [(2147483648, 2147583648, 0, 0), (2147483648, 2147483656, 1, 0), (2147483648, 2147485249, 2, 0)]
def bn1434 : e2_Q8 := (bn1382, bn1094)
noncomputable def f_b270 : ev_H := (bn1434 : e2_Q8)
noncomputable def q_b270_0 : ev_H := (bn1434 : e2_Q8)
noncomputable def rs_b270 : e2_Rs := [((0, 4294967295, 0), q_b270_0)]
noncomputable def s_b270 : e2_Sm := (190, as_b270, E_b270, f_b270, rs_b270)
noncomputable def S_b270 : List e2_Sm := [s_b269]
noncomputable def I_b270 : List e2_In := []
set_option maxRecDepth 1000000 in
theorem ck_b270 : e2_run (e2_cal S_b270 I_b270 4000 0) (e2_fin rs_b270) e2x_190 (fun _ => false) (fun _ _ _ _ _ => false) 4000 (e2_seek e2x_190 0) (e2_al 1 as_b270) [] E_b270 f_b270 = true := by decide +kernel
set_option maxRecDepth 1000000 in
theorem co_b270 : e2_okSB E_b270.length as_b270 f_b270 rs_b270 = true := by decide +kernel
theorem cs_b270 (hen : en_ok) (l : Launch) : e2_smOk l 2 s_b270 := e2_con0 (H := 1) (n := 0) (C := evd_190) (S := S_b270) (I := I_b270) (fuel := 4000) [] hen ei_190 (e2_fa (cs_b269 hen l) e2_fz) e2_fz (by decide) co_b270 ex2_190 ck_b270
/-! b271 X10_known -/
def as_b271 : List ev_V := [(2, 83, 0), (0, 4294967295, 0)]
def E_b271 : e2_E := [(2147483648, 2147583648, 0, 0), (2147483648, 2147483656, 1, 0), (2147483648, 2147485249, 2, 0)]
noncomputable def f_b271 : ev_H := (bn1097 : e2_Q8)
noncomputable def q_b271_0 : ev_H := (bn1097 : e2_Q8)
noncomputable def rs_b271 : e2_Rs := [((0, 0, 0), q_b271_0)]
noncomputable def s_b271 : e2_Sm := (192, as_b271, E_b271, f_b271, rs_b271)
noncomputable def S_b271 : List e2_Sm := []
noncomputable def I_b271 : List e2_In := [(174, 1, e2x_174)]
set_option maxRecDepth 1000000 in
theorem ck_b271 : e2_run (e2_cal S_b271 I_b271 4000 1) (e2_fin rs_b271) e2x_192 (fun _ => false) (fun _ _ _ _ _ => false) 4000 (e2_seek e2x_192 0) (e2_al 2 as_b271) [] E_b271 f_b271 = true := by decide +kernel
set_option maxRecDepth 1000000 in
theorem co_b271 : e2_okSB E_b271.length as_b271 f_b271 rs_b271 = true := by decide +kernel
theorem cs_b271 (hen : en_ok) (l : Launch) : e2_smOk l 2 s_b271 := e2_con0 (H := 0) (n := 1) (C := evd_192) (S := S_b271) (I := I_b271) (fuel := 4000) [] hen ei_192 e2_fz (e2_fa ein_174 e2_fz) (by decide) co_b271 ex2_192 ck_b271
/-! b272 X10_here -/
def as_b272 : List ev_V := [(2, 83, 0), (2, 105, 0), (0, 4, 0), (11, 2147483648, 2147483652)]
def E_b272 : e2_E := [(2147483648, 2147583648, 0, 0), (2147483648, 2147483656, 1, 0), (2147483648, 2147485249, 2, 0)]
noncomputable def f_b272 : ev_H := (bn1097 : e2_Q8)
noncomputable def q_b272_0 : ev_H := (bn1097 : e2_Q8)
noncomputable def rs_b272 : e2_Rs := [((0, 4294967295, 0), q_b272_0)]
noncomputable def s_b272 : e2_Sm := (188, as_b272, E_b272, f_b272, rs_b272)
noncomputable def S_b272 : List e2_Sm := []
noncomputable def I_b272 : List e2_In := []
set_option maxRecDepth 1000000 in
theorem co_b272 : e2_okSB E_b272.length as_b272 f_b272 rs_b272 = true := by decide +kernel
def al_b272_0 : List ev_V := [(2, 83, 0), (2, 105, 0), (0, 4, 0), (11, 2147483648, 2147483652), (1, 3, 4294967296)]
def E_b272_0 : e2_E := [(2147483648, 2147583648, 0, 0), (2147483648, 2147483656, 1, 0), (2147483648, 2147485249, 2, 0), (2147483648, 2147483652, 3, 0)]
noncomputable def h_b272_0 : ev_H := (bn1097 : e2_Q8)
noncomputable def cl_b272_e : List (Nat × e2_S) := [(3, e2_cutL (al_b272_0.set 4 (11, 2147483648, 2147483652)) 3 (E_b272_0.take 3) h_b272_0)]
set_option maxRecDepth 1000000 in
theorem ck_b272_e : e2_run (e2_cal S_b272 I_b272 4000 0) (e2_fin rs_b272) e2x_188 (e2_bpL cl_b272_e) (e2_cutA cl_b272_e) 4000 (e2_seek e2x_188 0) (e2_al 5 as_b272) [] E_b272 f_b272 = true := by decide +kernel
noncomputable def cl_b272_0 : List (Nat × e2_S) := [(3, e2_cutL (al_b272_0.set 4 (13, 11, 2147483652)) 3 (E_b272_0.take 3) h_b272_0)]
set_option maxRecDepth 1000000 in
theorem ck_b272_0 : e2_runM (e2_cal S_b272 I_b272 4000 0) (e2_fin rs_b272) e2x_188 (e2_bpL cl_b272_0) (e2_cutA cl_b272_0) 4000 (e2_seek e2x_188 3) al_b272_0 [] E_b272_0 h_b272_0 = true := by decide +kernel
set_option maxRecDepth 1000000 in
theorem ci_b272_0 : e2_idl 3 (al_b272_0.set 4 (9, 0, 0)) = true := by decide +kernel
set_option maxRecDepth 1000000 in
theorem cj_b272_0 : e2_idh 3 8 h_b272_0 = true := by decide +kernel
theorem cs_b272 (hen : en_ok) (l : Launch) : e2_smOk l 1 s_b272 := by
  refine e2_conG (H := 0) (n := 0) (C := evd_188) (S := S_b272) (I := I_b272) (fuel := 4000) hen ei_188 e2_fz e2_fz (by decide) co_b272 fun M d _ hC hcall p e R s m args below meth c Q D cA A ads r0 ha hl0 => ?_
  have L_0 : e2_gdM M p l e R s m args below meth c Q D cA A ads r0 3 al_b272_0 [] E_b272_0 h_b272_0 := by
    refine e2_indL (u := 3) (j := 4) (lo := 2147483648) (hi := 2147483652) (b := 3) (dd := 0) hl0 (by decide) rfl rfl (Or.inr ⟨rfl, rfl⟩) rfl ci_b272_0 cj_b272_0 ?_
    intro r_0 k_0 hk_0 hp_0 hs_0 hn_0
    have hl_0 : r_0.length ≤ 4 := hs_0.len rfl
    have ha_0 := ha.ext hp_0
    exact e2_fromM hen ha_0 hcall (e2_cutA_ok (e2_fa (fun al st E h hc => hn_0 al st E h hc) e2_fz)) (hC []) (X := e2x_188) ex2_188 3 ck_b272_0
  have EN_0 := e2_entL (u := 3) (j := 4) (lo := 2147483648) (hi := 2147483652) hl0 rfl rfl rfl ci_b272_0 cj_b272_0 L_0
  exact e2_from hen ha hcall (e2_cutA_ok (e2_fa (fun al st E h hc => EN_0 al st E h hc) e2_fz)) (hC []) (X := e2x_188) ex2_188 0 ck_b272_e
/-! b273 X10_thingHere -/
def as_b273 : List ev_V := [(2, 83, 0)]
def E_b273 : e2_E := [(2147483648, 2147583648, 0, 0), (2147483648, 2147483656, 1, 0), (2147483648, 2147485249, 2, 0)]
def bn1435 : e2_Q6 := (bn382, bn1384)
def bn1436 : e2_Q7 := (bn736, bn1435)
def bn1437 : e2_Q8 := (bn733, bn1436)
noncomputable def f_b273 : ev_H := (bn1437 : e2_Q8)
noncomputable def q_b273_0 : ev_H := (bn1437 : e2_Q8)
noncomputable def rs_b273 : e2_Rs := [((0, 4294967295, 0), q_b273_0)]
noncomputable def s_b273 : e2_Sm := (189, as_b273, E_b273, f_b273, rs_b273)
noncomputable def S_b273 : List e2_Sm := [s_b272]
noncomputable def I_b273 : List e2_In := []
set_option maxRecDepth 1000000 in
theorem ck_b273 : e2_run (e2_cal S_b273 I_b273 4000 0) (e2_fin rs_b273) e2x_189 (fun _ => false) (fun _ _ _ _ _ => false) 4000 (e2_seek e2x_189 0) (e2_al 1 as_b273) [] E_b273 f_b273 = true := by decide +kernel
set_option maxRecDepth 1000000 in
theorem co_b273 : e2_okSB E_b273.length as_b273 f_b273 rs_b273 = true := by decide +kernel
theorem cs_b273 (hen : en_ok) (l : Launch) : e2_smOk l 2 s_b273 := e2_con0 (H := 1) (n := 0) (C := evd_189) (S := S_b273) (I := I_b273) (fuel := 4000) [] hen ei_189 (e2_fa (cs_b272 hen l) e2_fz) e2_fz (by decide) co_b273 ex2_189 ck_b273
/-! b274 X10_readGlyph -/
def as_b274 : List ev_V := [(2, 83, 0)]
def E_b274 : e2_E := [(2147483648, 2147583648, 0, 0), (2147483648, 2147483656, 1, 0), (2147483648, 2147485249, 2, 0)]
def bn1438 : e2_Q4 := (bn1402, bn312)
def bn1439 : e2_Q5 := (bn1438, bn365)
def bn1440 : e2_Q6 := (bn1439, bn1384)
def bn1441 : e2_Q7 := (bn357, bn1440)
def bn1442 : e2_Q8 := (bn1400, bn1441)
noncomputable def f_b274 : ev_H := (bn1442 : e2_Q8)
def bn1443 : e2_Q4 := (bn1402, bn380)
def bn1444 : e2_Q5 := (bn1443, bn365)
def bn1445 : e2_Q6 := (bn1444, bn1384)
def bn1446 : e2_Q7 := (bn357, bn1445)
def bn1447 : e2_Q8 := (bn1414, bn1446)
noncomputable def q_b274_0 : ev_H := (bn1447 : e2_Q8)
noncomputable def rs_b274 : e2_Rs := [((9, 0, 0), q_b274_0)]
noncomputable def s_b274 : e2_Sm := (196, as_b274, E_b274, f_b274, rs_b274)
noncomputable def S_b274 : List e2_Sm := [s_b18, s_b185, s_b234, s_b268, s_b270, s_b271, s_b273]
noncomputable def I_b274 : List e2_In := [(179, 3, e2x_179)]
set_option maxRecDepth 1000000 in
theorem ck_b274 : e2_run (e2_cal S_b274 I_b274 4000 1) (e2_fin rs_b274) e2x_196 (fun _ => false) (fun _ _ _ _ _ => false) 4000 (e2_seek e2x_196 0) (e2_al 2 as_b274) [] E_b274 f_b274 = true := by decide +kernel
set_option maxRecDepth 1000000 in
theorem co_b274 : e2_okSB E_b274.length as_b274 f_b274 rs_b274 = true := by decide +kernel
theorem cs_b274 (hen : en_ok) (l : Launch) (hh : e2_hand_b l) : e2_smOk l 62 s_b274 := e2_con0 (H := 60) (n := 1) (C := evd_196) (S := S_b274) (I := I_b274) (fuel := 4000) [] hen ei_196 (e2_fa (hh _ hm_b18) (e2_fa ((cs_b185 hen l).mono (by decide)) (e2_fa ((cs_b234 hen l).mono (by decide)) (e2_fa ((cs_b268 hen l).mono (by decide)) (e2_fa ((cs_b270 hen l).mono (by decide)) (e2_fa ((cs_b271 hen l).mono (by decide)) (e2_fa ((cs_b273 hen l).mono (by decide)) e2_fz))))))) (e2_fa ein_179 e2_fz) (by decide) co_b274 ex2_196 ck_b274
/-! b275 X10_fresh -/
def as_b275 : List ev_V := [(2, 83, 0), (0, 4294967295, 0)]
def E_b275 : e2_E := [(2147483648, 2147583648, 0, 0), (2147483648, 2147483656, 1, 0), (2147483648, 2147485249, 2, 0)]
noncomputable def f_b275 : ev_H := (bn1147 : e2_Q8)
noncomputable def q_b275_0 : ev_H := (bn1083 : e2_Q8)
noncomputable def rs_b275 : e2_Rs := [((5, 0, 0), q_b275_0)]
noncomputable def s_b275 : e2_Sm := (191, as_b275, E_b275, f_b275, rs_b275)
noncomputable def S_b275 : List e2_Sm := []
noncomputable def I_b275 : List e2_In := [(173, 3, e2x_173), (174, 1, e2x_174), (180, 1, e2x_180)]
set_option maxRecDepth 1000000 in
theorem ck_b275 : e2_run (e2_cal S_b275 I_b275 4000 2) (e2_fin rs_b275) e2x_191 (fun _ => false) (fun _ _ _ _ _ => false) 4000 (e2_seek e2x_191 0) (e2_al 4 as_b275) [] E_b275 f_b275 = true := by decide +kernel
set_option maxRecDepth 1000000 in
theorem co_b275 : e2_okSB E_b275.length as_b275 f_b275 rs_b275 = true := by decide +kernel
theorem cs_b275 (hen : en_ok) (l : Launch) : e2_smOk l 3 s_b275 := e2_con0 (H := 0) (n := 2) (C := evd_191) (S := S_b275) (I := I_b275) (fuel := 4000) [] hen ei_191 e2_fz (e2_fa ein_173 (e2_fa ein_174 (e2_fa ein_180 e2_fz))) (by decide) co_b275 ex2_191 ck_b275
/-! b276 X10_here -/
def as_b276 : List ev_V := [(2, 83, 0), (2, 106, 0), (0, 8, 0), (11, 2147483648, 2147483656)]
def E_b276 : e2_E := [(2147483648, 2147583648, 0, 0), (2147483648, 2147483656, 1, 0), (2147483648, 2147485249, 2, 0)]
noncomputable def f_b276 : ev_H := (bn1147 : e2_Q8)
noncomputable def q_b276_0 : ev_H := (bn1147 : e2_Q8)
noncomputable def rs_b276 : e2_Rs := [((0, 4294967295, 0), q_b276_0)]
noncomputable def s_b276 : e2_Sm := (188, as_b276, E_b276, f_b276, rs_b276)
noncomputable def S_b276 : List e2_Sm := []
noncomputable def I_b276 : List e2_In := []
set_option maxRecDepth 1000000 in
theorem co_b276 : e2_okSB E_b276.length as_b276 f_b276 rs_b276 = true := by decide +kernel
def al_b276_0 : List ev_V := [(2, 83, 0), (2, 106, 0), (0, 8, 0), (11, 2147483648, 2147483656), (1, 3, 4294967296)]
def E_b276_0 : e2_E := [(2147483648, 2147583648, 0, 0), (2147483648, 2147483656, 1, 0), (2147483648, 2147485249, 2, 0), (2147483648, 2147483656, 3, 0)]
noncomputable def h_b276_0 : ev_H := (bn1147 : e2_Q8)
noncomputable def cl_b276_e : List (Nat × e2_S) := [(3, e2_cutL (al_b276_0.set 4 (11, 2147483648, 2147483656)) 3 (E_b276_0.take 3) h_b276_0)]
set_option maxRecDepth 1000000 in
theorem ck_b276_e : e2_run (e2_cal S_b276 I_b276 4000 0) (e2_fin rs_b276) e2x_188 (e2_bpL cl_b276_e) (e2_cutA cl_b276_e) 4000 (e2_seek e2x_188 0) (e2_al 5 as_b276) [] E_b276 f_b276 = true := by decide +kernel
noncomputable def cl_b276_0 : List (Nat × e2_S) := [(3, e2_cutL (al_b276_0.set 4 (13, 11, 2147483656)) 3 (E_b276_0.take 3) h_b276_0)]
set_option maxRecDepth 1000000 in
theorem ck_b276_0 : e2_runM (e2_cal S_b276 I_b276 4000 0) (e2_fin rs_b276) e2x_188 (e2_bpL cl_b276_0) (e2_cutA cl_b276_0) 4000 (e2_seek e2x_188 3) al_b276_0 [] E_b276_0 h_b276_0 = true := by decide +kernel
set_option maxRecDepth 1000000 in
theorem ci_b276_0 : e2_idl 3 (al_b276_0.set 4 (9, 0, 0)) = true := by decide +kernel
set_option maxRecDepth 1000000 in
theorem cj_b276_0 : e2_idh 3 8 h_b276_0 = true := by decide +kernel
theorem cs_b276 (hen : en_ok) (l : Launch) : e2_smOk l 1 s_b276 := by
  refine e2_conG (H := 0) (n := 0) (C := evd_188) (S := S_b276) (I := I_b276) (fuel := 4000) hen ei_188 e2_fz e2_fz (by decide) co_b276 fun M d _ hC hcall p e R s m args below meth c Q D cA A ads r0 ha hl0 => ?_
  have L_0 : e2_gdM M p l e R s m args below meth c Q D cA A ads r0 3 al_b276_0 [] E_b276_0 h_b276_0 := by
    refine e2_indL (u := 3) (j := 4) (lo := 2147483648) (hi := 2147483656) (b := 3) (dd := 0) hl0 (by decide) rfl rfl (Or.inr ⟨rfl, rfl⟩) rfl ci_b276_0 cj_b276_0 ?_
    intro r_0 k_0 hk_0 hp_0 hs_0 hn_0
    have hl_0 : r_0.length ≤ 4 := hs_0.len rfl
    have ha_0 := ha.ext hp_0
    exact e2_fromM hen ha_0 hcall (e2_cutA_ok (e2_fa (fun al st E h hc => hn_0 al st E h hc) e2_fz)) (hC []) (X := e2x_188) ex2_188 3 ck_b276_0
  have EN_0 := e2_entL (u := 3) (j := 4) (lo := 2147483648) (hi := 2147483656) hl0 rfl rfl rfl ci_b276_0 cj_b276_0 L_0
  exact e2_from hen ha hcall (e2_cutA_ok (e2_fa (fun al st E h hc => EN_0 al st E h hc) e2_fz)) (hC []) (X := e2x_188) ex2_188 0 ck_b276_e
/-! b277 X10_glyphHere -/
def as_b277 : List ev_V := [(2, 83, 0)]
def E_b277 : e2_E := [(2147483648, 2147583648, 0, 0), (2147483648, 2147483656, 1, 0), (2147483648, 2147485249, 2, 0)]
def bn1448 : e2_Q8 := (bn1382, bn1146)
noncomputable def f_b277 : ev_H := (bn1448 : e2_Q8)
noncomputable def q_b277_0 : ev_H := (bn1448 : e2_Q8)
noncomputable def rs_b277 : e2_Rs := [((0, 4294967295, 0), q_b277_0)]
noncomputable def s_b277 : e2_Sm := (190, as_b277, E_b277, f_b277, rs_b277)
noncomputable def S_b277 : List e2_Sm := [s_b276]
noncomputable def I_b277 : List e2_In := []
set_option maxRecDepth 1000000 in
theorem ck_b277 : e2_run (e2_cal S_b277 I_b277 4000 0) (e2_fin rs_b277) e2x_190 (fun _ => false) (fun _ _ _ _ _ => false) 4000 (e2_seek e2x_190 0) (e2_al 1 as_b277) [] E_b277 f_b277 = true := by decide +kernel
set_option maxRecDepth 1000000 in
theorem co_b277 : e2_okSB E_b277.length as_b277 f_b277 rs_b277 = true := by decide +kernel
theorem cs_b277 (hen : en_ok) (l : Launch) : e2_smOk l 2 s_b277 := e2_con0 (H := 1) (n := 0) (C := evd_190) (S := S_b277) (I := I_b277) (fuel := 4000) [] hen ei_190 (e2_fa (cs_b276 hen l) e2_fz) e2_fz (by decide) co_b277 ex2_190 ck_b277
/-! b278 X10_known -/
def as_b278 : List ev_V := [(2, 83, 0), (0, 4294967295, 0)]
def E_b278 : e2_E := [(2147483648, 2147583648, 0, 0), (2147483648, 2147483656, 1, 0), (2147483648, 2147485249, 2, 0)]
noncomputable def f_b278 : ev_H := (bn1083 : e2_Q8)
noncomputable def q_b278_0 : ev_H := (bn1083 : e2_Q8)
noncomputable def rs_b278 : e2_Rs := [((0, 0, 0), q_b278_0)]
noncomputable def s_b278 : e2_Sm := (192, as_b278, E_b278, f_b278, rs_b278)
noncomputable def S_b278 : List e2_Sm := []
noncomputable def I_b278 : List e2_In := [(174, 1, e2x_174)]
set_option maxRecDepth 1000000 in
theorem ck_b278 : e2_run (e2_cal S_b278 I_b278 4000 1) (e2_fin rs_b278) e2x_192 (fun _ => false) (fun _ _ _ _ _ => false) 4000 (e2_seek e2x_192 0) (e2_al 2 as_b278) [] E_b278 f_b278 = true := by decide +kernel
set_option maxRecDepth 1000000 in
theorem co_b278 : e2_okSB E_b278.length as_b278 f_b278 rs_b278 = true := by decide +kernel
theorem cs_b278 (hen : en_ok) (l : Launch) : e2_smOk l 2 s_b278 := e2_con0 (H := 0) (n := 1) (C := evd_192) (S := S_b278) (I := I_b278) (fuel := 4000) [] hen ei_192 e2_fz (e2_fa ein_174 e2_fz) (by decide) co_b278 ex2_192 ck_b278
/-! b279 X10_here -/
def as_b279 : List ev_V := [(2, 83, 0), (2, 105, 0), (0, 4, 0), (11, 2147483648, 2147483652)]
def E_b279 : e2_E := [(2147483648, 2147583648, 0, 0), (2147483648, 2147483656, 1, 0), (2147483648, 2147485249, 2, 0)]
noncomputable def f_b279 : ev_H := (bn1083 : e2_Q8)
noncomputable def q_b279_0 : ev_H := (bn1083 : e2_Q8)
noncomputable def rs_b279 : e2_Rs := [((0, 4294967295, 0), q_b279_0)]
noncomputable def s_b279 : e2_Sm := (188, as_b279, E_b279, f_b279, rs_b279)
noncomputable def S_b279 : List e2_Sm := []
noncomputable def I_b279 : List e2_In := []
set_option maxRecDepth 1000000 in
theorem co_b279 : e2_okSB E_b279.length as_b279 f_b279 rs_b279 = true := by decide +kernel
def al_b279_0 : List ev_V := [(2, 83, 0), (2, 105, 0), (0, 4, 0), (11, 2147483648, 2147483652), (1, 3, 4294967296)]
def E_b279_0 : e2_E := [(2147483648, 2147583648, 0, 0), (2147483648, 2147483656, 1, 0), (2147483648, 2147485249, 2, 0), (2147483648, 2147483652, 3, 0)]
noncomputable def h_b279_0 : ev_H := (bn1083 : e2_Q8)
noncomputable def cl_b279_e : List (Nat × e2_S) := [(3, e2_cutL (al_b279_0.set 4 (11, 2147483648, 2147483652)) 3 (E_b279_0.take 3) h_b279_0)]
set_option maxRecDepth 1000000 in
theorem ck_b279_e : e2_run (e2_cal S_b279 I_b279 4000 0) (e2_fin rs_b279) e2x_188 (e2_bpL cl_b279_e) (e2_cutA cl_b279_e) 4000 (e2_seek e2x_188 0) (e2_al 5 as_b279) [] E_b279 f_b279 = true := by decide +kernel
noncomputable def cl_b279_0 : List (Nat × e2_S) := [(3, e2_cutL (al_b279_0.set 4 (13, 11, 2147483652)) 3 (E_b279_0.take 3) h_b279_0)]
set_option maxRecDepth 1000000 in
theorem ck_b279_0 : e2_runM (e2_cal S_b279 I_b279 4000 0) (e2_fin rs_b279) e2x_188 (e2_bpL cl_b279_0) (e2_cutA cl_b279_0) 4000 (e2_seek e2x_188 3) al_b279_0 [] E_b279_0 h_b279_0 = true := by decide +kernel
set_option maxRecDepth 1000000 in
theorem ci_b279_0 : e2_idl 3 (al_b279_0.set 4 (9, 0, 0)) = true := by decide +kernel
set_option maxRecDepth 1000000 in
theorem cj_b279_0 : e2_idh 3 8 h_b279_0 = true := by decide +kernel
theorem cs_b279 (hen : en_ok) (l : Launch) : e2_smOk l 1 s_b279 := by
  refine e2_conG (H := 0) (n := 0) (C := evd_188) (S := S_b279) (I := I_b279) (fuel := 4000) hen ei_188 e2_fz e2_fz (by decide) co_b279 fun M d _ hC hcall p e R s m args below meth c Q D cA A ads r0 ha hl0 => ?_
  have L_0 : e2_gdM M p l e R s m args below meth c Q D cA A ads r0 3 al_b279_0 [] E_b279_0 h_b279_0 := by
    refine e2_indL (u := 3) (j := 4) (lo := 2147483648) (hi := 2147483652) (b := 3) (dd := 0) hl0 (by decide) rfl rfl (Or.inr ⟨rfl, rfl⟩) rfl ci_b279_0 cj_b279_0 ?_
    intro r_0 k_0 hk_0 hp_0 hs_0 hn_0
    have hl_0 : r_0.length ≤ 4 := hs_0.len rfl
    have ha_0 := ha.ext hp_0
    exact e2_fromM hen ha_0 hcall (e2_cutA_ok (e2_fa (fun al st E h hc => hn_0 al st E h hc) e2_fz)) (hC []) (X := e2x_188) ex2_188 3 ck_b279_0
  have EN_0 := e2_entL (u := 3) (j := 4) (lo := 2147483648) (hi := 2147483652) hl0 rfl rfl rfl ci_b279_0 cj_b279_0 L_0
  exact e2_from hen ha hcall (e2_cutA_ok (e2_fa (fun al st E h hc => EN_0 al st E h hc) e2_fz)) (hC []) (X := e2x_188) ex2_188 0 ck_b279_e
/-! b280 X10_thingHere -/
def as_b280 : List ev_V := [(2, 83, 0)]
def E_b280 : e2_E := [(2147483648, 2147583648, 0, 0), (2147483648, 2147483656, 1, 0), (2147483648, 2147485249, 2, 0)]
def bn1449 : e2_Q6 := (bn366, bn1384)
def bn1450 : e2_Q7 := (bn736, bn1449)
def bn1451 : e2_Q8 := (bn733, bn1450)
noncomputable def f_b280 : ev_H := (bn1451 : e2_Q8)
noncomputable def q_b280_0 : ev_H := (bn1451 : e2_Q8)
noncomputable def rs_b280 : e2_Rs := [((0, 4294967295, 0), q_b280_0)]
noncomputable def s_b280 : e2_Sm := (189, as_b280, E_b280, f_b280, rs_b280)
noncomputable def S_b280 : List e2_Sm := [s_b279]
noncomputable def I_b280 : List e2_In := []
set_option maxRecDepth 1000000 in
theorem ck_b280 : e2_run (e2_cal S_b280 I_b280 4000 0) (e2_fin rs_b280) e2x_189 (fun _ => false) (fun _ _ _ _ _ => false) 4000 (e2_seek e2x_189 0) (e2_al 1 as_b280) [] E_b280 f_b280 = true := by decide +kernel
set_option maxRecDepth 1000000 in
theorem co_b280 : e2_okSB E_b280.length as_b280 f_b280 rs_b280 = true := by decide +kernel
theorem cs_b280 (hen : en_ok) (l : Launch) : e2_smOk l 2 s_b280 := e2_con0 (H := 1) (n := 0) (C := evd_189) (S := S_b280) (I := I_b280) (fuel := 4000) [] hen ei_189 (e2_fa (cs_b279 hen l) e2_fz) e2_fz (by decide) co_b280 ex2_189 ck_b280
/-! b281 X10_readGlyph -/
def as_b281 : List ev_V := [(2, 83, 0)]
def E_b281 : e2_E := [(2147483648, 2147583648, 0, 0), (2147483648, 2147483656, 1, 0), (2147483648, 2147485249, 2, 0)]
def bn1452 : e2_Q4 := (bn1402, bn202)
def bn1453 : e2_Q5 := (bn1452, bn365)
def bn1454 : e2_Q6 := (bn1453, bn1384)
def bn1455 : e2_Q7 := (bn357, bn1454)
def bn1456 : e2_Q8 := (bn1400, bn1455)
noncomputable def f_b281 : ev_H := (bn1456 : e2_Q8)
def bn1457 : e2_Q4 := (bn1402, bn360)
def bn1458 : e2_Q5 := (bn1457, bn365)
def bn1459 : e2_Q6 := (bn1458, bn1384)
def bn1460 : e2_Q7 := (bn357, bn1459)
def bn1461 : e2_Q8 := (bn1414, bn1460)
noncomputable def q_b281_0 : ev_H := (bn1461 : e2_Q8)
noncomputable def rs_b281 : e2_Rs := [((9, 0, 0), q_b281_0)]
noncomputable def s_b281 : e2_Sm := (196, as_b281, E_b281, f_b281, rs_b281)
noncomputable def S_b281 : List e2_Sm := [s_b16, s_b178, s_b232, s_b275, s_b277, s_b278, s_b280]
noncomputable def I_b281 : List e2_In := [(179, 3, e2x_179)]
set_option maxRecDepth 1000000 in
theorem ck_b281 : e2_run (e2_cal S_b281 I_b281 4000 1) (e2_fin rs_b281) e2x_196 (fun _ => false) (fun _ _ _ _ _ => false) 4000 (e2_seek e2x_196 0) (e2_al 2 as_b281) [] E_b281 f_b281 = true := by decide +kernel
set_option maxRecDepth 1000000 in
theorem co_b281 : e2_okSB E_b281.length as_b281 f_b281 rs_b281 = true := by decide +kernel
theorem cs_b281 (hen : en_ok) (l : Launch) (hh : e2_hand_b l) : e2_smOk l 62 s_b281 := e2_con0 (H := 60) (n := 1) (C := evd_196) (S := S_b281) (I := I_b281) (fuel := 4000) [] hen ei_196 (e2_fa (hh _ hm_b16) (e2_fa ((cs_b178 hen l).mono (by decide)) (e2_fa ((cs_b232 hen l).mono (by decide)) (e2_fa ((cs_b275 hen l).mono (by decide)) (e2_fa ((cs_b277 hen l).mono (by decide)) (e2_fa ((cs_b278 hen l).mono (by decide)) (e2_fa ((cs_b280 hen l).mono (by decide)) e2_fz))))))) (e2_fa ein_179 e2_fz) (by decide) co_b281 ex2_196 ck_b281
/-! b282 X10_fresh -/
def as_b282 : List ev_V := [(2, 83, 0), (11, 2147483647, 2147483655)]
def E_b282 : e2_E := [(2147483648, 2147583648, 0, 0), (2147483648, 2147483656, 1, 0), (2147483648, 2147485249, 2, 0)]
noncomputable def f_b282 : ev_H := (bn1047 : e2_Q8)
noncomputable def q_b282_0 : ev_H := (bn1093 : e2_Q8)
noncomputable def q_b282_1 : ev_H := (bn1027 : e2_Q8)
noncomputable def q_b282_2 : ev_H := (bn939 : e2_Q8)
noncomputable def q_b282_3 : ev_H := (bn1019 : e2_Q8)
noncomputable def q_b282_4 : ev_H := (bn1011 : e2_Q8)
noncomputable def q_b282_5 : ev_H := (bn1003 : e2_Q8)
noncomputable def rs_b282 : e2_Rs := [((5, 0, 0), q_b282_0), ((5, 0, 0), q_b282_1), ((5, 0, 0), q_b282_2), ((5, 0, 0), q_b282_3), ((5, 0, 0), q_b282_4), ((5, 0, 0), q_b282_5)]
noncomputable def s_b282 : e2_Sm := (191, as_b282, E_b282, f_b282, rs_b282)
noncomputable def S_b282 : List e2_Sm := [s_b176]
noncomputable def I_b282 : List e2_In := [(173, 3, e2x_173), (174, 1, e2x_174), (180, 1, e2x_180)]
set_option maxRecDepth 1000000 in
theorem ck_b282 : e2_run (e2_cal S_b282 I_b282 4000 2) (e2_fin rs_b282) e2x_191 (fun _ => false) (fun _ _ _ _ _ => false) 4000 (e2_seek e2x_191 0) (e2_al 4 as_b282) [] E_b282 f_b282 = true := by decide +kernel
set_option maxRecDepth 1000000 in
theorem co_b282 : e2_okSB E_b282.length as_b282 f_b282 rs_b282 = true := by decide +kernel
theorem cs_b282 (hen : en_ok) (l : Launch) : e2_smOk l 6 s_b282 := e2_con0 (H := 3) (n := 2) (C := evd_191) (S := S_b282) (I := I_b282) (fuel := 4000) [] hen ei_191 (e2_fa (cs_b176 hen l) e2_fz) (e2_fa ein_173 (e2_fa ein_174 (e2_fa ein_180 e2_fz))) (by decide) co_b282 ex2_191 ck_b282
/-! b283 X10_here -/
def as_b283 : List ev_V := [(2, 83, 0), (2, 106, 0), (0, 8, 0), (11, 2147483648, 2147483656)]
def E_b283 : e2_E := [(2147483648, 2147583648, 0, 0), (2147483648, 2147483656, 1, 0), (2147483648, 2147485249, 2, 0)]
def bn1462 : e2_Q5 := (bn77, bn1397)
def bn1463 : e2_Q6 := (bn1462, bn344)
def bn1464 : e2_Q7 := (bn732, bn1463)
def bn1465 : e2_Q8 := (bn1464, bn1150)
noncomputable def f_b283 : ev_H := (bn1465 : e2_Q8)
noncomputable def q_b283_0 : ev_H := (bn1465 : e2_Q8)
noncomputable def rs_b283 : e2_Rs := [((11, 2147483647, 2147483655), q_b283_0)]
noncomputable def s_b283 : e2_Sm := (188, as_b283, E_b283, f_b283, rs_b283)
noncomputable def S_b283 : List e2_Sm := []
noncomputable def I_b283 : List e2_In := []
set_option maxRecDepth 1000000 in
theorem co_b283 : e2_okSB E_b283.length as_b283 f_b283 rs_b283 = true := by decide +kernel
def al_b283_0 : List ev_V := [(2, 83, 0), (2, 106, 0), (0, 8, 0), (11, 2147483648, 2147483656), (1, 3, 4294967296)]
def E_b283_0 : e2_E := [(2147483648, 2147583648, 0, 0), (2147483648, 2147483656, 1, 0), (2147483648, 2147485249, 2, 0), (2147483648, 2147483656, 3, 0)]
noncomputable def h_b283_0 : ev_H := (bn1465 : e2_Q8)
noncomputable def cl_b283_e : List (Nat × e2_S) := [(3, e2_cutL (al_b283_0.set 4 (11, 2147483648, 2147483656)) 3 (E_b283_0.take 3) h_b283_0)]
set_option maxRecDepth 1000000 in
theorem ck_b283_e : e2_run (e2_cal S_b283 I_b283 4000 0) (e2_fin rs_b283) e2x_188 (e2_bpL cl_b283_e) (e2_cutA cl_b283_e) 4000 (e2_seek e2x_188 0) (e2_al 5 as_b283) [] E_b283 f_b283 = true := by decide +kernel
noncomputable def cl_b283_0 : List (Nat × e2_S) := [(3, e2_cutL (al_b283_0.set 4 (13, 11, 2147483656)) 3 (E_b283_0.take 3) h_b283_0)]
set_option maxRecDepth 1000000 in
theorem ck_b283_0 : e2_runM (e2_cal S_b283 I_b283 4000 0) (e2_fin rs_b283) e2x_188 (e2_bpL cl_b283_0) (e2_cutA cl_b283_0) 4000 (e2_seek e2x_188 3) al_b283_0 [] E_b283_0 h_b283_0 = true := by decide +kernel
set_option maxRecDepth 1000000 in
theorem ci_b283_0 : e2_idl 3 (al_b283_0.set 4 (9, 0, 0)) = true := by decide +kernel
set_option maxRecDepth 1000000 in
theorem cj_b283_0 : e2_idh 3 8 h_b283_0 = true := by decide +kernel
theorem cs_b283 (hen : en_ok) (l : Launch) : e2_smOk l 1 s_b283 := by
  refine e2_conG (H := 0) (n := 0) (C := evd_188) (S := S_b283) (I := I_b283) (fuel := 4000) hen ei_188 e2_fz e2_fz (by decide) co_b283 fun M d _ hC hcall p e R s m args below meth c Q D cA A ads r0 ha hl0 => ?_
  have L_0 : e2_gdM M p l e R s m args below meth c Q D cA A ads r0 3 al_b283_0 [] E_b283_0 h_b283_0 := by
    refine e2_indL (u := 3) (j := 4) (lo := 2147483648) (hi := 2147483656) (b := 3) (dd := 0) hl0 (by decide) rfl rfl (Or.inr ⟨rfl, rfl⟩) rfl ci_b283_0 cj_b283_0 ?_
    intro r_0 k_0 hk_0 hp_0 hs_0 hn_0
    have hl_0 : r_0.length ≤ 4 := hs_0.len rfl
    have ha_0 := ha.ext hp_0
    exact e2_fromM hen ha_0 hcall (e2_cutA_ok (e2_fa (fun al st E h hc => hn_0 al st E h hc) e2_fz)) (hC []) (X := e2x_188) ex2_188 3 ck_b283_0
  have EN_0 := e2_entL (u := 3) (j := 4) (lo := 2147483648) (hi := 2147483656) hl0 rfl rfl rfl ci_b283_0 cj_b283_0 L_0
  exact e2_from hen ha hcall (e2_cutA_ok (e2_fa (fun al st E h hc => EN_0 al st E h hc) e2_fz)) (hC []) (X := e2x_188) ex2_188 0 ck_b283_e
/-! b284 X10_glyphHere -/
def as_b284 : List ev_V := [(2, 83, 0)]
def E_b284 : e2_E := [(2147483648, 2147583648, 0, 0), (2147483648, 2147483656, 1, 0), (2147483648, 2147485249, 2, 0)]
def bn1466 : e2_Q7 := (bn1381, bn1463)
def bn1467 : e2_Q8 := (bn1466, bn1150)
noncomputable def f_b284 : ev_H := (bn1467 : e2_Q8)
noncomputable def q_b284_0 : ev_H := (bn1467 : e2_Q8)
noncomputable def rs_b284 : e2_Rs := [((11, 2147483647, 2147483655), q_b284_0)]
noncomputable def s_b284 : e2_Sm := (190, as_b284, E_b284, f_b284, rs_b284)
noncomputable def S_b284 : List e2_Sm := [s_b283]
noncomputable def I_b284 : List e2_In := []
set_option maxRecDepth 1000000 in
theorem ck_b284 : e2_run (e2_cal S_b284 I_b284 4000 0) (e2_fin rs_b284) e2x_190 (fun _ => false) (fun _ _ _ _ _ => false) 4000 (e2_seek e2x_190 0) (e2_al 1 as_b284) [] E_b284 f_b284 = true := by decide +kernel
set_option maxRecDepth 1000000 in
theorem co_b284 : e2_okSB E_b284.length as_b284 f_b284 rs_b284 = true := by decide +kernel
theorem cs_b284 (hen : en_ok) (l : Launch) : e2_smOk l 2 s_b284 := e2_con0 (H := 1) (n := 0) (C := evd_190) (S := S_b284) (I := I_b284) (fuel := 4000) [] hen ei_190 (e2_fa (cs_b283 hen l) e2_fz) e2_fz (by decide) co_b284 ex2_190 ck_b284
/-! b285 X10_known -/
def as_b285 : List ev_V := [(2, 83, 0), (0, 4294967295, 0)]
def E_b285 : e2_E := [(2147483648, 2147583648, 0, 0), (2147483648, 2147483656, 1, 0), (2147483648, 2147485249, 2, 0)]
noncomputable def f_b285 : ev_H := (bn1099 : e2_Q8)
noncomputable def q_b285_0 : ev_H := (bn1085 : e2_Q8)
noncomputable def rs_b285 : e2_Rs := [((0, 0, 0), q_b285_0)]
noncomputable def s_b285 : e2_Sm := (192, as_b285, E_b285, f_b285, rs_b285)
noncomputable def S_b285 : List e2_Sm := []
noncomputable def I_b285 : List e2_In := [(173, 3, e2x_173), (174, 1, e2x_174), (180, 1, e2x_180)]
set_option maxRecDepth 1000000 in
theorem ck_b285 : e2_run (e2_cal S_b285 I_b285 4000 2) (e2_fin rs_b285) e2x_192 (fun _ => false) (fun _ _ _ _ _ => false) 4000 (e2_seek e2x_192 0) (e2_al 2 as_b285) [] E_b285 f_b285 = true := by decide +kernel
set_option maxRecDepth 1000000 in
theorem co_b285 : e2_okSB E_b285.length as_b285 f_b285 rs_b285 = true := by decide +kernel
theorem cs_b285 (hen : en_ok) (l : Launch) : e2_smOk l 3 s_b285 := e2_con0 (H := 0) (n := 2) (C := evd_192) (S := S_b285) (I := I_b285) (fuel := 4000) [] hen ei_192 e2_fz (e2_fa ein_173 (e2_fa ein_174 (e2_fa ein_180 e2_fz))) (by decide) co_b285 ex2_192 ck_b285
/-! b286 X10_known -/
def as_b286 : List ev_V := [(2, 83, 0), (0, 4294967295, 0)]
def E_b286 : e2_E := [(2147483648, 2147583648, 0, 0), (2147483648, 2147483656, 1, 0), (2147483648, 2147485249, 2, 0)]
noncomputable def f_b286 : ev_H := (bn1153 : e2_Q8)
noncomputable def q_b286_0 : ev_H := (bn1161 : e2_Q8)
noncomputable def rs_b286 : e2_Rs := [((0, 0, 0), q_b286_0)]
noncomputable def s_b286 : e2_Sm := (192, as_b286, E_b286, f_b286, rs_b286)
noncomputable def S_b286 : List e2_Sm := []
noncomputable def I_b286 : List e2_In := [(173, 3, e2x_173), (174, 1, e2x_174), (180, 1, e2x_180)]
set_option maxRecDepth 1000000 in
theorem ck_b286 : e2_run (e2_cal S_b286 I_b286 4000 2) (e2_fin rs_b286) e2x_192 (fun _ => false) (fun _ _ _ _ _ => false) 4000 (e2_seek e2x_192 0) (e2_al 2 as_b286) [] E_b286 f_b286 = true := by decide +kernel
set_option maxRecDepth 1000000 in
theorem co_b286 : e2_okSB E_b286.length as_b286 f_b286 rs_b286 = true := by decide +kernel
theorem cs_b286 (hen : en_ok) (l : Launch) : e2_smOk l 3 s_b286 := e2_con0 (H := 0) (n := 2) (C := evd_192) (S := S_b286) (I := I_b286) (fuel := 4000) [] hen ei_192 e2_fz (e2_fa ein_173 (e2_fa ein_174 (e2_fa ein_180 e2_fz))) (by decide) co_b286 ex2_192 ck_b286
/-! b287 X10_known -/
def as_b287 : List ev_V := [(2, 83, 0), (0, 4294967295, 0)]
def E_b287 : e2_E := [(2147483648, 2147583648, 0, 0), (2147483648, 2147483656, 1, 0), (2147483648, 2147485249, 2, 0)]
noncomputable def f_b287 : ev_H := (bn1199 : e2_Q8)
def bn1468 : e2_Q7 := (bn736, bn1177)
def bn1469 : e2_Q8 := (bn733, bn1468)
noncomputable def q_b287_0 : ev_H := (bn1469 : e2_Q8)
noncomputable def rs_b287 : e2_Rs := [((0, 0, 0), q_b287_0)]
noncomputable def s_b287 : e2_Sm := (192, as_b287, E_b287, f_b287, rs_b287)
noncomputable def S_b287 : List e2_Sm := []
noncomputable def I_b287 : List e2_In := [(173, 3, e2x_173), (174, 1, e2x_174), (180, 1, e2x_180)]
set_option maxRecDepth 1000000 in
theorem ck_b287 : e2_run (e2_cal S_b287 I_b287 4000 2) (e2_fin rs_b287) e2x_192 (fun _ => false) (fun _ _ _ _ _ => false) 4000 (e2_seek e2x_192 0) (e2_al 2 as_b287) [] E_b287 f_b287 = true := by decide +kernel
set_option maxRecDepth 1000000 in
theorem co_b287 : e2_okSB E_b287.length as_b287 f_b287 rs_b287 = true := by decide +kernel
theorem cs_b287 (hen : en_ok) (l : Launch) : e2_smOk l 3 s_b287 := e2_con0 (H := 0) (n := 2) (C := evd_192) (S := S_b287) (I := I_b287) (fuel := 4000) [] hen ei_192 e2_fz (e2_fa ein_173 (e2_fa ein_174 (e2_fa ein_180 e2_fz))) (by decide) co_b287 ex2_192 ck_b287
/-! b288 X10_known -/
def as_b288 : List ev_V := [(2, 83, 0), (0, 4294967295, 0)]
def E_b288 : e2_E := [(2147483648, 2147583648, 0, 0), (2147483648, 2147483656, 1, 0), (2147483648, 2147485249, 2, 0)]
noncomputable def f_b288 : ev_H := (bn1147 : e2_Q8)
noncomputable def q_b288_0 : ev_H := (bn1083 : e2_Q8)
noncomputable def rs_b288 : e2_Rs := [((0, 0, 0), q_b288_0)]
noncomputable def s_b288 : e2_Sm := (192, as_b288, E_b288, f_b288, rs_b288)
noncomputable def S_b288 : List e2_Sm := []
noncomputable def I_b288 : List e2_In := [(173, 3, e2x_173), (174, 1, e2x_174), (180, 1, e2x_180)]
set_option maxRecDepth 1000000 in
theorem ck_b288 : e2_run (e2_cal S_b288 I_b288 4000 2) (e2_fin rs_b288) e2x_192 (fun _ => false) (fun _ _ _ _ _ => false) 4000 (e2_seek e2x_192 0) (e2_al 2 as_b288) [] E_b288 f_b288 = true := by decide +kernel
set_option maxRecDepth 1000000 in
theorem co_b288 : e2_okSB E_b288.length as_b288 f_b288 rs_b288 = true := by decide +kernel
theorem cs_b288 (hen : en_ok) (l : Launch) : e2_smOk l 3 s_b288 := e2_con0 (H := 0) (n := 2) (C := evd_192) (S := S_b288) (I := I_b288) (fuel := 4000) [] hen ei_192 e2_fz (e2_fa ein_173 (e2_fa ein_174 (e2_fa ein_180 e2_fz))) (by decide) co_b288 ex2_192 ck_b288
/-! b289 X10_known -/
def as_b289 : List ev_V := [(2, 83, 0), (0, 4294967295, 0)]
def E_b289 : e2_E := [(2147483648, 2147583648, 0, 0), (2147483648, 2147483656, 1, 0), (2147483648, 2147485249, 2, 0)]
noncomputable def f_b289 : ev_H := (bn1137 : e2_Q8)
noncomputable def q_b289_0 : ev_H := (bn1137 : e2_Q8)
noncomputable def rs_b289 : e2_Rs := [((0, 0, 0), q_b289_0)]
noncomputable def s_b289 : e2_Sm := (192, as_b289, E_b289, f_b289, rs_b289)
noncomputable def S_b289 : List e2_Sm := []
noncomputable def I_b289 : List e2_In := [(174, 1, e2x_174)]
set_option maxRecDepth 1000000 in
theorem ck_b289 : e2_run (e2_cal S_b289 I_b289 4000 1) (e2_fin rs_b289) e2x_192 (fun _ => false) (fun _ _ _ _ _ => false) 4000 (e2_seek e2x_192 0) (e2_al 2 as_b289) [] E_b289 f_b289 = true := by decide +kernel
set_option maxRecDepth 1000000 in
theorem co_b289 : e2_okSB E_b289.length as_b289 f_b289 rs_b289 = true := by decide +kernel
theorem cs_b289 (hen : en_ok) (l : Launch) : e2_smOk l 2 s_b289 := e2_con0 (H := 0) (n := 1) (C := evd_192) (S := S_b289) (I := I_b289) (fuel := 4000) [] hen ei_192 e2_fz (e2_fa ein_174 e2_fz) (by decide) co_b289 ex2_192 ck_b289
/-! b290 X10_known -/
def as_b290 : List ev_V := [(2, 83, 0), (0, 4294967295, 0)]
def E_b290 : e2_E := [(2147483648, 2147583648, 0, 0), (2147483648, 2147483656, 1, 0), (2147483648, 2147485249, 2, 0)]
noncomputable def f_b290 : ev_H := (bn1125 : e2_Q8)
noncomputable def q_b290_0 : ev_H := (bn1125 : e2_Q8)
noncomputable def rs_b290 : e2_Rs := [((0, 0, 0), q_b290_0)]
noncomputable def s_b290 : e2_Sm := (192, as_b290, E_b290, f_b290, rs_b290)
noncomputable def S_b290 : List e2_Sm := []
noncomputable def I_b290 : List e2_In := [(174, 1, e2x_174)]
set_option maxRecDepth 1000000 in
theorem ck_b290 : e2_run (e2_cal S_b290 I_b290 4000 1) (e2_fin rs_b290) e2x_192 (fun _ => false) (fun _ _ _ _ _ => false) 4000 (e2_seek e2x_192 0) (e2_al 2 as_b290) [] E_b290 f_b290 = true := by decide +kernel
set_option maxRecDepth 1000000 in
theorem co_b290 : e2_okSB E_b290.length as_b290 f_b290 rs_b290 = true := by decide +kernel
theorem cs_b290 (hen : en_ok) (l : Launch) : e2_smOk l 2 s_b290 := e2_con0 (H := 0) (n := 1) (C := evd_192) (S := S_b290) (I := I_b290) (fuel := 4000) [] hen ei_192 e2_fz (e2_fa ein_174 e2_fz) (by decide) co_b290 ex2_192 ck_b290
/-! b291 X10_known -/
def as_b291 : List ev_V := [(2, 83, 0), (0, 4294967295, 0)]
def E_b291 : e2_E := [(2147483648, 2147583648, 0, 0), (2147483648, 2147483656, 1, 0), (2147483648, 2147485249, 2, 0)]
noncomputable def f_b291 : ev_H := (bn1105 : e2_Q8)
noncomputable def q_b291_0 : ev_H := (bn1105 : e2_Q8)
noncomputable def rs_b291 : e2_Rs := [((0, 0, 0), q_b291_0)]
noncomputable def s_b291 : e2_Sm := (192, as_b291, E_b291, f_b291, rs_b291)
noncomputable def S_b291 : List e2_Sm := []
noncomputable def I_b291 : List e2_In := [(174, 1, e2x_174)]
set_option maxRecDepth 1000000 in
theorem ck_b291 : e2_run (e2_cal S_b291 I_b291 4000 1) (e2_fin rs_b291) e2x_192 (fun _ => false) (fun _ _ _ _ _ => false) 4000 (e2_seek e2x_192 0) (e2_al 2 as_b291) [] E_b291 f_b291 = true := by decide +kernel
set_option maxRecDepth 1000000 in
theorem co_b291 : e2_okSB E_b291.length as_b291 f_b291 rs_b291 = true := by decide +kernel
theorem cs_b291 (hen : en_ok) (l : Launch) : e2_smOk l 2 s_b291 := e2_con0 (H := 0) (n := 1) (C := evd_192) (S := S_b291) (I := I_b291) (fuel := 4000) [] hen ei_192 e2_fz (e2_fa ein_174 e2_fz) (by decide) co_b291 ex2_192 ck_b291
/-! b292 X10_known -/
def as_b292 : List ev_V := [(2, 83, 0), (11, 2147483647, 2147483651)]
def E_b292 : e2_E := [(2147483648, 2147583648, 0, 0), (2147483648, 2147483656, 1, 0), (2147483648, 2147485249, 2, 0)]
noncomputable def f_b292 : ev_H := (bn1047 : e2_Q8)
noncomputable def q_b292_0 : ev_H := (bn1093 : e2_Q8)
noncomputable def q_b292_1 : ev_H := (bn1027 : e2_Q8)
noncomputable def q_b292_2 : ev_H := (bn939 : e2_Q8)
noncomputable def q_b292_3 : ev_H := (bn1019 : e2_Q8)
noncomputable def q_b292_4 : ev_H := (bn1011 : e2_Q8)
noncomputable def q_b292_5 : ev_H := (bn1003 : e2_Q8)
noncomputable def rs_b292 : e2_Rs := [((11, 2147483648, 2147483651), q_b292_0), ((11, 2147483648, 2147483651), q_b292_1), ((11, 2147483648, 2147483651), q_b292_2), ((11, 2147483648, 2147483651), q_b292_3), ((11, 2147483648, 2147483651), q_b292_4), ((11, 2147483648, 2147483651), q_b292_5)]
noncomputable def s_b292 : e2_Sm := (192, as_b292, E_b292, f_b292, rs_b292)
noncomputable def S_b292 : List e2_Sm := [s_b176]
noncomputable def I_b292 : List e2_In := [(173, 3, e2x_173), (174, 1, e2x_174), (180, 1, e2x_180)]
set_option maxRecDepth 1000000 in
theorem ck_b292 : e2_run (e2_cal S_b292 I_b292 4000 2) (e2_fin rs_b292) e2x_192 (fun _ => false) (fun _ _ _ _ _ => false) 4000 (e2_seek e2x_192 0) (e2_al 2 as_b292) [] E_b292 f_b292 = true := by decide +kernel
set_option maxRecDepth 1000000 in
theorem co_b292 : e2_okSB E_b292.length as_b292 f_b292 rs_b292 = true := by decide +kernel
theorem cs_b292 (hen : en_ok) (l : Launch) : e2_smOk l 6 s_b292 := e2_con0 (H := 3) (n := 2) (C := evd_192) (S := S_b292) (I := I_b292) (fuel := 4000) [] hen ei_192 (e2_fa (cs_b176 hen l) e2_fz) (e2_fa ein_173 (e2_fa ein_174 (e2_fa ein_180 e2_fz))) (by decide) co_b292 ex2_192 ck_b292
/-! b293 X10_known -/
def as_b293 : List ev_V := [(2, 83, 0), (11, 2147483647, 2147483651)]
def E_b293 : e2_E := [(2147483648, 2147583648, 0, 0), (2147483648, 2147483656, 1, 0), (2147483648, 2147485249, 2, 0)]
noncomputable def f_b293 : ev_H := (bn1103 : e2_Q8)
noncomputable def q_b293_0 : ev_H := (bn1103 : e2_Q8)
noncomputable def rs_b293 : e2_Rs := [((0, 0, 0), q_b293_0)]
noncomputable def s_b293 : e2_Sm := (192, as_b293, E_b293, f_b293, rs_b293)
noncomputable def S_b293 : List e2_Sm := []
noncomputable def I_b293 : List e2_In := [(174, 1, e2x_174)]
set_option maxRecDepth 1000000 in
theorem ck_b293 : e2_run (e2_cal S_b293 I_b293 4000 1) (e2_fin rs_b293) e2x_192 (fun _ => false) (fun _ _ _ _ _ => false) 4000 (e2_seek e2x_192 0) (e2_al 2 as_b293) [] E_b293 f_b293 = true := by decide +kernel
set_option maxRecDepth 1000000 in
theorem co_b293 : e2_okSB E_b293.length as_b293 f_b293 rs_b293 = true := by decide +kernel
theorem cs_b293 (hen : en_ok) (l : Launch) : e2_smOk l 2 s_b293 := e2_con0 (H := 0) (n := 1) (C := evd_192) (S := S_b293) (I := I_b293) (fuel := 4000) [] hen ei_192 e2_fz (e2_fa ein_174 e2_fz) (by decide) co_b293 ex2_192 ck_b293
/-! b294 X10_known -/
def as_b294 : List ev_V := [(2, 83, 0), (11, 2147483647, 2147483651)]
def E_b294 : e2_E := [(2147483648, 2147583648, 0, 0), (2147483648, 2147483656, 1, 0), (2147483648, 2147485249, 2, 0)]
noncomputable def f_b294 : ev_H := (bn1145 : e2_Q8)
noncomputable def q_b294_0 : ev_H := (bn1145 : e2_Q8)
noncomputable def rs_b294 : e2_Rs := [((0, 0, 0), q_b294_0)]
noncomputable def s_b294 : e2_Sm := (192, as_b294, E_b294, f_b294, rs_b294)
noncomputable def S_b294 : List e2_Sm := []
noncomputable def I_b294 : List e2_In := [(174, 1, e2x_174)]
set_option maxRecDepth 1000000 in
theorem ck_b294 : e2_run (e2_cal S_b294 I_b294 4000 1) (e2_fin rs_b294) e2x_192 (fun _ => false) (fun _ _ _ _ _ => false) 4000 (e2_seek e2x_192 0) (e2_al 2 as_b294) [] E_b294 f_b294 = true := by decide +kernel
set_option maxRecDepth 1000000 in
theorem co_b294 : e2_okSB E_b294.length as_b294 f_b294 rs_b294 = true := by decide +kernel
theorem cs_b294 (hen : en_ok) (l : Launch) : e2_smOk l 2 s_b294 := e2_con0 (H := 0) (n := 1) (C := evd_192) (S := S_b294) (I := I_b294) (fuel := 4000) [] hen ei_192 e2_fz (e2_fa ein_174 e2_fz) (by decide) co_b294 ex2_192 ck_b294
/-! b295 X10_known -/
def as_b295 : List ev_V := [(2, 83, 0), (11, 2147483648, 2147483651)]
def E_b295 : e2_E := [(2147483648, 2147583648, 0, 0), (2147483648, 2147483656, 1, 0), (2147483648, 2147485249, 2, 0)]
noncomputable def f_b295 : ev_H := (bn1145 : e2_Q8)
noncomputable def q_b295_0 : ev_H := (bn1145 : e2_Q8)
noncomputable def rs_b295 : e2_Rs := [((0, 0, 0), q_b295_0)]
noncomputable def s_b295 : e2_Sm := (192, as_b295, E_b295, f_b295, rs_b295)
noncomputable def S_b295 : List e2_Sm := []
noncomputable def I_b295 : List e2_In := [(174, 1, e2x_174)]
set_option maxRecDepth 1000000 in
theorem ck_b295 : e2_run (e2_cal S_b295 I_b295 4000 1) (e2_fin rs_b295) e2x_192 (fun _ => false) (fun _ _ _ _ _ => false) 4000 (e2_seek e2x_192 0) (e2_al 2 as_b295) [] E_b295 f_b295 = true := by decide +kernel
set_option maxRecDepth 1000000 in
theorem co_b295 : e2_okSB E_b295.length as_b295 f_b295 rs_b295 = true := by decide +kernel
theorem cs_b295 (hen : en_ok) (l : Launch) : e2_smOk l 2 s_b295 := e2_con0 (H := 0) (n := 1) (C := evd_192) (S := S_b295) (I := I_b295) (fuel := 4000) [] hen ei_192 e2_fz (e2_fa ein_174 e2_fz) (by decide) co_b295 ex2_192 ck_b295
/-! b296 X10_here -/
def as_b296 : List ev_V := [(2, 83, 0), (2, 105, 0), (0, 4, 0), (11, 2147483648, 2147483652)]
def E_b296 : e2_E := [(2147483648, 2147583648, 0, 0), (2147483648, 2147483656, 1, 0), (2147483648, 2147485249, 2, 0)]
noncomputable def f_b296 : ev_H := (bn1099 : e2_Q8)
noncomputable def q_b296_0 : ev_H := (bn1099 : e2_Q8)
noncomputable def rs_b296 : e2_Rs := [((0, 4294967295, 0), q_b296_0)]
noncomputable def s_b296 : e2_Sm := (188, as_b296, E_b296, f_b296, rs_b296)
noncomputable def S_b296 : List e2_Sm := []
noncomputable def I_b296 : List e2_In := []
set_option maxRecDepth 1000000 in
theorem co_b296 : e2_okSB E_b296.length as_b296 f_b296 rs_b296 = true := by decide +kernel
def al_b296_0 : List ev_V := [(2, 83, 0), (2, 105, 0), (0, 4, 0), (11, 2147483648, 2147483652), (1, 3, 4294967296)]
def E_b296_0 : e2_E := [(2147483648, 2147583648, 0, 0), (2147483648, 2147483656, 1, 0), (2147483648, 2147485249, 2, 0), (2147483648, 2147483652, 3, 0)]
noncomputable def h_b296_0 : ev_H := (bn1099 : e2_Q8)
noncomputable def cl_b296_e : List (Nat × e2_S) := [(3, e2_cutL (al_b296_0.set 4 (11, 2147483648, 2147483652)) 3 (E_b296_0.take 3) h_b296_0)]
set_option maxRecDepth 1000000 in
theorem ck_b296_e : e2_run (e2_cal S_b296 I_b296 4000 0) (e2_fin rs_b296) e2x_188 (e2_bpL cl_b296_e) (e2_cutA cl_b296_e) 4000 (e2_seek e2x_188 0) (e2_al 5 as_b296) [] E_b296 f_b296 = true := by decide +kernel
noncomputable def cl_b296_0 : List (Nat × e2_S) := [(3, e2_cutL (al_b296_0.set 4 (13, 11, 2147483652)) 3 (E_b296_0.take 3) h_b296_0)]
set_option maxRecDepth 1000000 in
theorem ck_b296_0 : e2_runM (e2_cal S_b296 I_b296 4000 0) (e2_fin rs_b296) e2x_188 (e2_bpL cl_b296_0) (e2_cutA cl_b296_0) 4000 (e2_seek e2x_188 3) al_b296_0 [] E_b296_0 h_b296_0 = true := by decide +kernel
set_option maxRecDepth 1000000 in
theorem ci_b296_0 : e2_idl 3 (al_b296_0.set 4 (9, 0, 0)) = true := by decide +kernel
set_option maxRecDepth 1000000 in
theorem cj_b296_0 : e2_idh 3 8 h_b296_0 = true := by decide +kernel
theorem cs_b296 (hen : en_ok) (l : Launch) : e2_smOk l 1 s_b296 := by
  refine e2_conG (H := 0) (n := 0) (C := evd_188) (S := S_b296) (I := I_b296) (fuel := 4000) hen ei_188 e2_fz e2_fz (by decide) co_b296 fun M d _ hC hcall p e R s m args below meth c Q D cA A ads r0 ha hl0 => ?_
  have L_0 : e2_gdM M p l e R s m args below meth c Q D cA A ads r0 3 al_b296_0 [] E_b296_0 h_b296_0 := by
    refine e2_indL (u := 3) (j := 4) (lo := 2147483648) (hi := 2147483652) (b := 3) (dd := 0) hl0 (by decide) rfl rfl (Or.inr ⟨rfl, rfl⟩) rfl ci_b296_0 cj_b296_0 ?_
    intro r_0 k_0 hk_0 hp_0 hs_0 hn_0
    have hl_0 : r_0.length ≤ 4 := hs_0.len rfl
    have ha_0 := ha.ext hp_0
    exact e2_fromM hen ha_0 hcall (e2_cutA_ok (e2_fa (fun al st E h hc => hn_0 al st E h hc) e2_fz)) (hC []) (X := e2x_188) ex2_188 3 ck_b296_0
  have EN_0 := e2_entL (u := 3) (j := 4) (lo := 2147483648) (hi := 2147483652) hl0 rfl rfl rfl ci_b296_0 cj_b296_0 L_0
  exact e2_from hen ha hcall (e2_cutA_ok (e2_fa (fun al st E h hc => EN_0 al st E h hc) e2_fz)) (hC []) (X := e2x_188) ex2_188 0 ck_b296_e
/-! b297 X10_thingHere -/
def as_b297 : List ev_V := [(2, 83, 0)]
def E_b297 : e2_E := [(2147483648, 2147583648, 0, 0), (2147483648, 2147483656, 1, 0), (2147483648, 2147485249, 2, 0)]
def bn1470 : e2_Q6 := (bn446, bn1384)
def bn1471 : e2_Q7 := (bn736, bn1470)
def bn1472 : e2_Q8 := (bn733, bn1471)
noncomputable def f_b297 : ev_H := (bn1472 : e2_Q8)
noncomputable def q_b297_0 : ev_H := (bn1472 : e2_Q8)
noncomputable def rs_b297 : e2_Rs := [((0, 4294967295, 0), q_b297_0)]
noncomputable def s_b297 : e2_Sm := (189, as_b297, E_b297, f_b297, rs_b297)
noncomputable def S_b297 : List e2_Sm := [s_b296]
noncomputable def I_b297 : List e2_In := []
set_option maxRecDepth 1000000 in
theorem ck_b297 : e2_run (e2_cal S_b297 I_b297 4000 0) (e2_fin rs_b297) e2x_189 (fun _ => false) (fun _ _ _ _ _ => false) 4000 (e2_seek e2x_189 0) (e2_al 1 as_b297) [] E_b297 f_b297 = true := by decide +kernel
set_option maxRecDepth 1000000 in
theorem co_b297 : e2_okSB E_b297.length as_b297 f_b297 rs_b297 = true := by decide +kernel
theorem cs_b297 (hen : en_ok) (l : Launch) : e2_smOk l 2 s_b297 := e2_con0 (H := 1) (n := 0) (C := evd_189) (S := S_b297) (I := I_b297) (fuel := 4000) [] hen ei_189 (e2_fa (cs_b296 hen l) e2_fz) e2_fz (by decide) co_b297 ex2_189 ck_b297
/-! b298 X10_here -/
def as_b298 : List ev_V := [(2, 83, 0), (2, 105, 0), (0, 4, 0), (11, 2147483648, 2147483652)]
def E_b298 : e2_E := [(2147483648, 2147583648, 0, 0), (2147483648, 2147483656, 1, 0), (2147483648, 2147485249, 2, 0)]
noncomputable def f_b298 : ev_H := (bn1153 : e2_Q8)
noncomputable def q_b298_0 : ev_H := (bn1153 : e2_Q8)
noncomputable def rs_b298 : e2_Rs := [((0, 4294967295, 0), q_b298_0)]
noncomputable def s_b298 : e2_Sm := (188, as_b298, E_b298, f_b298, rs_b298)
noncomputable def S_b298 : List e2_Sm := []
noncomputable def I_b298 : List e2_In := []
set_option maxRecDepth 1000000 in
theorem co_b298 : e2_okSB E_b298.length as_b298 f_b298 rs_b298 = true := by decide +kernel
def al_b298_0 : List ev_V := [(2, 83, 0), (2, 105, 0), (0, 4, 0), (11, 2147483648, 2147483652), (1, 3, 4294967296)]
def E_b298_0 : e2_E := [(2147483648, 2147583648, 0, 0), (2147483648, 2147483656, 1, 0), (2147483648, 2147485249, 2, 0), (2147483648, 2147483652, 3, 0)]
noncomputable def h_b298_0 : ev_H := (bn1153 : e2_Q8)
noncomputable def cl_b298_e : List (Nat × e2_S) := [(3, e2_cutL (al_b298_0.set 4 (11, 2147483648, 2147483652)) 3 (E_b298_0.take 3) h_b298_0)]
set_option maxRecDepth 1000000 in
theorem ck_b298_e : e2_run (e2_cal S_b298 I_b298 4000 0) (e2_fin rs_b298) e2x_188 (e2_bpL cl_b298_e) (e2_cutA cl_b298_e) 4000 (e2_seek e2x_188 0) (e2_al 5 as_b298) [] E_b298 f_b298 = true := by decide +kernel
noncomputable def cl_b298_0 : List (Nat × e2_S) := [(3, e2_cutL (al_b298_0.set 4 (13, 11, 2147483652)) 3 (E_b298_0.take 3) h_b298_0)]
set_option maxRecDepth 1000000 in
theorem ck_b298_0 : e2_runM (e2_cal S_b298 I_b298 4000 0) (e2_fin rs_b298) e2x_188 (e2_bpL cl_b298_0) (e2_cutA cl_b298_0) 4000 (e2_seek e2x_188 3) al_b298_0 [] E_b298_0 h_b298_0 = true := by decide +kernel
set_option maxRecDepth 1000000 in
theorem ci_b298_0 : e2_idl 3 (al_b298_0.set 4 (9, 0, 0)) = true := by decide +kernel
set_option maxRecDepth 1000000 in
theorem cj_b298_0 : e2_idh 3 8 h_b298_0 = true := by decide +kernel
theorem cs_b298 (hen : en_ok) (l : Launch) : e2_smOk l 1 s_b298 := by
  refine e2_conG (H := 0) (n := 0) (C := evd_188) (S := S_b298) (I := I_b298) (fuel := 4000) hen ei_188 e2_fz e2_fz (by decide) co_b298 fun M d _ hC hcall p e R s m args below meth c Q D cA A ads r0 ha hl0 => ?_
  have L_0 : e2_gdM M p l e R s m args below meth c Q D cA A ads r0 3 al_b298_0 [] E_b298_0 h_b298_0 := by
    refine e2_indL (u := 3) (j := 4) (lo := 2147483648) (hi := 2147483652) (b := 3) (dd := 0) hl0 (by decide) rfl rfl (Or.inr ⟨rfl, rfl⟩) rfl ci_b298_0 cj_b298_0 ?_
    intro r_0 k_0 hk_0 hp_0 hs_0 hn_0
    have hl_0 : r_0.length ≤ 4 := hs_0.len rfl
    have ha_0 := ha.ext hp_0
    exact e2_fromM hen ha_0 hcall (e2_cutA_ok (e2_fa (fun al st E h hc => hn_0 al st E h hc) e2_fz)) (hC []) (X := e2x_188) ex2_188 3 ck_b298_0
  have EN_0 := e2_entL (u := 3) (j := 4) (lo := 2147483648) (hi := 2147483652) hl0 rfl rfl rfl ci_b298_0 cj_b298_0 L_0
  exact e2_from hen ha hcall (e2_cutA_ok (e2_fa (fun al st E h hc => EN_0 al st E h hc) e2_fz)) (hC []) (X := e2x_188) ex2_188 0 ck_b298_e
/-! b299 X10_thingHere -/
def as_b299 : List ev_V := [(2, 83, 0)]
def E_b299 : e2_E := [(2147483648, 2147583648, 0, 0), (2147483648, 2147483656, 1, 0), (2147483648, 2147485249, 2, 0)]
def bn1473 : e2_Q6 := (bn390, bn1384)
def bn1474 : e2_Q7 := (bn736, bn1473)
def bn1475 : e2_Q8 := (bn733, bn1474)
noncomputable def f_b299 : ev_H := (bn1475 : e2_Q8)
noncomputable def q_b299_0 : ev_H := (bn1475 : e2_Q8)
noncomputable def rs_b299 : e2_Rs := [((0, 4294967295, 0), q_b299_0)]
noncomputable def s_b299 : e2_Sm := (189, as_b299, E_b299, f_b299, rs_b299)
noncomputable def S_b299 : List e2_Sm := [s_b298]
noncomputable def I_b299 : List e2_In := []
set_option maxRecDepth 1000000 in
theorem ck_b299 : e2_run (e2_cal S_b299 I_b299 4000 0) (e2_fin rs_b299) e2x_189 (fun _ => false) (fun _ _ _ _ _ => false) 4000 (e2_seek e2x_189 0) (e2_al 1 as_b299) [] E_b299 f_b299 = true := by decide +kernel
set_option maxRecDepth 1000000 in
theorem co_b299 : e2_okSB E_b299.length as_b299 f_b299 rs_b299 = true := by decide +kernel
theorem cs_b299 (hen : en_ok) (l : Launch) : e2_smOk l 2 s_b299 := e2_con0 (H := 1) (n := 0) (C := evd_189) (S := S_b299) (I := I_b299) (fuel := 4000) [] hen ei_189 (e2_fa (cs_b298 hen l) e2_fz) e2_fz (by decide) co_b299 ex2_189 ck_b299
/-! b300 X10_here -/
def as_b300 : List ev_V := [(2, 83, 0), (2, 105, 0), (0, 4, 0), (11, 2147483648, 2147483652)]
def E_b300 : e2_E := [(2147483648, 2147583648, 0, 0), (2147483648, 2147483656, 1, 0), (2147483648, 2147485249, 2, 0)]
noncomputable def f_b300 : ev_H := (bn1199 : e2_Q8)
noncomputable def q_b300_0 : ev_H := (bn1199 : e2_Q8)
noncomputable def rs_b300 : e2_Rs := [((0, 4294967295, 0), q_b300_0)]
noncomputable def s_b300 : e2_Sm := (188, as_b300, E_b300, f_b300, rs_b300)
noncomputable def S_b300 : List e2_Sm := []
noncomputable def I_b300 : List e2_In := []
set_option maxRecDepth 1000000 in
theorem co_b300 : e2_okSB E_b300.length as_b300 f_b300 rs_b300 = true := by decide +kernel
def al_b300_0 : List ev_V := [(2, 83, 0), (2, 105, 0), (0, 4, 0), (11, 2147483648, 2147483652), (1, 3, 4294967296)]
def E_b300_0 : e2_E := [(2147483648, 2147583648, 0, 0), (2147483648, 2147483656, 1, 0), (2147483648, 2147485249, 2, 0), (2147483648, 2147483652, 3, 0)]
noncomputable def h_b300_0 : ev_H := (bn1199 : e2_Q8)
noncomputable def cl_b300_e : List (Nat × e2_S) := [(3, e2_cutL (al_b300_0.set 4 (11, 2147483648, 2147483652)) 3 (E_b300_0.take 3) h_b300_0)]
set_option maxRecDepth 1000000 in
theorem ck_b300_e : e2_run (e2_cal S_b300 I_b300 4000 0) (e2_fin rs_b300) e2x_188 (e2_bpL cl_b300_e) (e2_cutA cl_b300_e) 4000 (e2_seek e2x_188 0) (e2_al 5 as_b300) [] E_b300 f_b300 = true := by decide +kernel
noncomputable def cl_b300_0 : List (Nat × e2_S) := [(3, e2_cutL (al_b300_0.set 4 (13, 11, 2147483652)) 3 (E_b300_0.take 3) h_b300_0)]
set_option maxRecDepth 1000000 in
theorem ck_b300_0 : e2_runM (e2_cal S_b300 I_b300 4000 0) (e2_fin rs_b300) e2x_188 (e2_bpL cl_b300_0) (e2_cutA cl_b300_0) 4000 (e2_seek e2x_188 3) al_b300_0 [] E_b300_0 h_b300_0 = true := by decide +kernel
set_option maxRecDepth 1000000 in
theorem ci_b300_0 : e2_idl 3 (al_b300_0.set 4 (9, 0, 0)) = true := by decide +kernel
set_option maxRecDepth 1000000 in
theorem cj_b300_0 : e2_idh 3 8 h_b300_0 = true := by decide +kernel
theorem cs_b300 (hen : en_ok) (l : Launch) : e2_smOk l 1 s_b300 := by
  refine e2_conG (H := 0) (n := 0) (C := evd_188) (S := S_b300) (I := I_b300) (fuel := 4000) hen ei_188 e2_fz e2_fz (by decide) co_b300 fun M d _ hC hcall p e R s m args below meth c Q D cA A ads r0 ha hl0 => ?_
  have L_0 : e2_gdM M p l e R s m args below meth c Q D cA A ads r0 3 al_b300_0 [] E_b300_0 h_b300_0 := by
    refine e2_indL (u := 3) (j := 4) (lo := 2147483648) (hi := 2147483652) (b := 3) (dd := 0) hl0 (by decide) rfl rfl (Or.inr ⟨rfl, rfl⟩) rfl ci_b300_0 cj_b300_0 ?_
    intro r_0 k_0 hk_0 hp_0 hs_0 hn_0
    have hl_0 : r_0.length ≤ 4 := hs_0.len rfl
    have ha_0 := ha.ext hp_0
    exact e2_fromM hen ha_0 hcall (e2_cutA_ok (e2_fa (fun al st E h hc => hn_0 al st E h hc) e2_fz)) (hC []) (X := e2x_188) ex2_188 3 ck_b300_0
  have EN_0 := e2_entL (u := 3) (j := 4) (lo := 2147483648) (hi := 2147483652) hl0 rfl rfl rfl ci_b300_0 cj_b300_0 L_0
  exact e2_from hen ha hcall (e2_cutA_ok (e2_fa (fun al st E h hc => EN_0 al st E h hc) e2_fz)) (hC []) (X := e2x_188) ex2_188 0 ck_b300_e
/-! b301 X10_thingHere -/
def as_b301 : List ev_V := [(2, 83, 0)]
def E_b301 : e2_E := [(2147483648, 2147583648, 0, 0), (2147483648, 2147483656, 1, 0), (2147483648, 2147485249, 2, 0)]
def bn1476 : e2_Q6 := (bn420, bn1384)
def bn1477 : e2_Q7 := (bn736, bn1476)
def bn1478 : e2_Q8 := (bn733, bn1477)
noncomputable def f_b301 : ev_H := (bn1478 : e2_Q8)
noncomputable def q_b301_0 : ev_H := (bn1478 : e2_Q8)
noncomputable def rs_b301 : e2_Rs := [((0, 4294967295, 0), q_b301_0)]
noncomputable def s_b301 : e2_Sm := (189, as_b301, E_b301, f_b301, rs_b301)
noncomputable def S_b301 : List e2_Sm := [s_b300]
noncomputable def I_b301 : List e2_In := []
set_option maxRecDepth 1000000 in
theorem ck_b301 : e2_run (e2_cal S_b301 I_b301 4000 0) (e2_fin rs_b301) e2x_189 (fun _ => false) (fun _ _ _ _ _ => false) 4000 (e2_seek e2x_189 0) (e2_al 1 as_b301) [] E_b301 f_b301 = true := by decide +kernel
set_option maxRecDepth 1000000 in
theorem co_b301 : e2_okSB E_b301.length as_b301 f_b301 rs_b301 = true := by decide +kernel
theorem cs_b301 (hen : en_ok) (l : Launch) : e2_smOk l 2 s_b301 := e2_con0 (H := 1) (n := 0) (C := evd_189) (S := S_b301) (I := I_b301) (fuel := 4000) [] hen ei_189 (e2_fa (cs_b300 hen l) e2_fz) e2_fz (by decide) co_b301 ex2_189 ck_b301
/-! b302 X10_here -/
def as_b302 : List ev_V := [(2, 83, 0), (2, 105, 0), (0, 4, 0), (11, 2147483648, 2147483652)]
def E_b302 : e2_E := [(2147483648, 2147583648, 0, 0), (2147483648, 2147483656, 1, 0), (2147483648, 2147485249, 2, 0)]
noncomputable def f_b302 : ev_H := (bn1147 : e2_Q8)
noncomputable def q_b302_0 : ev_H := (bn1147 : e2_Q8)
noncomputable def rs_b302 : e2_Rs := [((0, 4294967295, 0), q_b302_0)]
noncomputable def s_b302 : e2_Sm := (188, as_b302, E_b302, f_b302, rs_b302)
noncomputable def S_b302 : List e2_Sm := []
noncomputable def I_b302 : List e2_In := []
set_option maxRecDepth 1000000 in
theorem co_b302 : e2_okSB E_b302.length as_b302 f_b302 rs_b302 = true := by decide +kernel
def al_b302_0 : List ev_V := [(2, 83, 0), (2, 105, 0), (0, 4, 0), (11, 2147483648, 2147483652), (1, 3, 4294967296)]
def E_b302_0 : e2_E := [(2147483648, 2147583648, 0, 0), (2147483648, 2147483656, 1, 0), (2147483648, 2147485249, 2, 0), (2147483648, 2147483652, 3, 0)]
noncomputable def h_b302_0 : ev_H := (bn1147 : e2_Q8)
noncomputable def cl_b302_e : List (Nat × e2_S) := [(3, e2_cutL (al_b302_0.set 4 (11, 2147483648, 2147483652)) 3 (E_b302_0.take 3) h_b302_0)]
set_option maxRecDepth 1000000 in
theorem ck_b302_e : e2_run (e2_cal S_b302 I_b302 4000 0) (e2_fin rs_b302) e2x_188 (e2_bpL cl_b302_e) (e2_cutA cl_b302_e) 4000 (e2_seek e2x_188 0) (e2_al 5 as_b302) [] E_b302 f_b302 = true := by decide +kernel
noncomputable def cl_b302_0 : List (Nat × e2_S) := [(3, e2_cutL (al_b302_0.set 4 (13, 11, 2147483652)) 3 (E_b302_0.take 3) h_b302_0)]
set_option maxRecDepth 1000000 in
theorem ck_b302_0 : e2_runM (e2_cal S_b302 I_b302 4000 0) (e2_fin rs_b302) e2x_188 (e2_bpL cl_b302_0) (e2_cutA cl_b302_0) 4000 (e2_seek e2x_188 3) al_b302_0 [] E_b302_0 h_b302_0 = true := by decide +kernel
set_option maxRecDepth 1000000 in
theorem ci_b302_0 : e2_idl 3 (al_b302_0.set 4 (9, 0, 0)) = true := by decide +kernel
set_option maxRecDepth 1000000 in
theorem cj_b302_0 : e2_idh 3 8 h_b302_0 = true := by decide +kernel
theorem cs_b302 (hen : en_ok) (l : Launch) : e2_smOk l 1 s_b302 := by
  refine e2_conG (H := 0) (n := 0) (C := evd_188) (S := S_b302) (I := I_b302) (fuel := 4000) hen ei_188 e2_fz e2_fz (by decide) co_b302 fun M d _ hC hcall p e R s m args below meth c Q D cA A ads r0 ha hl0 => ?_
  have L_0 : e2_gdM M p l e R s m args below meth c Q D cA A ads r0 3 al_b302_0 [] E_b302_0 h_b302_0 := by
    refine e2_indL (u := 3) (j := 4) (lo := 2147483648) (hi := 2147483652) (b := 3) (dd := 0) hl0 (by decide) rfl rfl (Or.inr ⟨rfl, rfl⟩) rfl ci_b302_0 cj_b302_0 ?_
    intro r_0 k_0 hk_0 hp_0 hs_0 hn_0
    have hl_0 : r_0.length ≤ 4 := hs_0.len rfl
    have ha_0 := ha.ext hp_0
    exact e2_fromM hen ha_0 hcall (e2_cutA_ok (e2_fa (fun al st E h hc => hn_0 al st E h hc) e2_fz)) (hC []) (X := e2x_188) ex2_188 3 ck_b302_0
  have EN_0 := e2_entL (u := 3) (j := 4) (lo := 2147483648) (hi := 2147483652) hl0 rfl rfl rfl ci_b302_0 cj_b302_0 L_0
  exact e2_from hen ha hcall (e2_cutA_ok (e2_fa (fun al st E h hc => EN_0 al st E h hc) e2_fz)) (hC []) (X := e2x_188) ex2_188 0 ck_b302_e
/-! b303 X10_thingHere -/
def as_b303 : List ev_V := [(2, 83, 0)]
def E_b303 : e2_E := [(2147483648, 2147583648, 0, 0), (2147483648, 2147483656, 1, 0), (2147483648, 2147485249, 2, 0)]
def bn1479 : e2_Q6 := (bn428, bn1384)
def bn1480 : e2_Q7 := (bn736, bn1479)
def bn1481 : e2_Q8 := (bn733, bn1480)
noncomputable def f_b303 : ev_H := (bn1481 : e2_Q8)
def bn1482 : e2_Q6 := (bn992, bn1384)
def bn1483 : e2_Q7 := (bn736, bn1482)
def bn1484 : e2_Q8 := (bn733, bn1483)
noncomputable def q_b303_0 : ev_H := (bn1484 : e2_Q8)
noncomputable def rs_b303 : e2_Rs := [((0, 4294967295, 0), q_b303_0)]
noncomputable def s_b303 : e2_Sm := (189, as_b303, E_b303, f_b303, rs_b303)
noncomputable def S_b303 : List e2_Sm := [s_b302]
noncomputable def I_b303 : List e2_In := []
set_option maxRecDepth 1000000 in
theorem ck_b303 : e2_run (e2_cal S_b303 I_b303 4000 0) (e2_fin rs_b303) e2x_189 (fun _ => false) (fun _ _ _ _ _ => false) 4000 (e2_seek e2x_189 0) (e2_al 1 as_b303) [] E_b303 f_b303 = true := by decide +kernel
set_option maxRecDepth 1000000 in
theorem co_b303 : e2_okSB E_b303.length as_b303 f_b303 rs_b303 = true := by decide +kernel
theorem cs_b303 (hen : en_ok) (l : Launch) : e2_smOk l 2 s_b303 := e2_con0 (H := 1) (n := 0) (C := evd_189) (S := S_b303) (I := I_b303) (fuel := 4000) [] hen ei_189 (e2_fa (cs_b302 hen l) e2_fz) e2_fz (by decide) co_b303 ex2_189 ck_b303
/-! b304 X10_here -/
def as_b304 : List ev_V := [(2, 83, 0), (2, 105, 0), (0, 4, 0), (11, 2147483648, 2147483652)]
def E_b304 : e2_E := [(2147483648, 2147583648, 0, 0), (2147483648, 2147483656, 1, 0), (2147483648, 2147485249, 2, 0)]
def bc239 : ev_C := (53, [(0, 8, 0)])
def bn1485 : e2_Q1 := (bc239, bc3)
def bn1486 : e2_Q2 := (bn145, bn1485)
def bn1487 : e2_Q3 := (bn144, bn1486)
def bn1488 : e2_Q4 := (bn1487, bn155)
def bn1489 : e2_Q5 := (bn141, bn1488)
def bn1490 : e2_Q6 := (bn1489, bn735)
def bn1491 : e2_Q7 := (bn1490, bn1045)
def bn1492 : e2_Q8 := (bn733, bn1491)
noncomputable def f_b304 : ev_H := (bn1492 : e2_Q8)
noncomputable def q_b304_0 : ev_H := (bn1492 : e2_Q8)
noncomputable def rs_b304 : e2_Rs := [((11, 2147483647, 2147483651), q_b304_0)]
noncomputable def s_b304 : e2_Sm := (188, as_b304, E_b304, f_b304, rs_b304)
noncomputable def S_b304 : List e2_Sm := []
noncomputable def I_b304 : List e2_In := []
set_option maxRecDepth 1000000 in
theorem co_b304 : e2_okSB E_b304.length as_b304 f_b304 rs_b304 = true := by decide +kernel
def al_b304_0 : List ev_V := [(2, 83, 0), (2, 105, 0), (0, 4, 0), (11, 2147483648, 2147483652), (1, 3, 4294967296)]
def E_b304_0 : e2_E := [(2147483648, 2147583648, 0, 0), (2147483648, 2147483656, 1, 0), (2147483648, 2147485249, 2, 0), (2147483648, 2147483652, 3, 0)]
noncomputable def h_b304_0 : ev_H := (bn1492 : e2_Q8)
noncomputable def cl_b304_e : List (Nat × e2_S) := [(3, e2_cutL (al_b304_0.set 4 (11, 2147483648, 2147483652)) 3 (E_b304_0.take 3) h_b304_0)]
set_option maxRecDepth 1000000 in
theorem ck_b304_e : e2_run (e2_cal S_b304 I_b304 4000 0) (e2_fin rs_b304) e2x_188 (e2_bpL cl_b304_e) (e2_cutA cl_b304_e) 4000 (e2_seek e2x_188 0) (e2_al 5 as_b304) [] E_b304 f_b304 = true := by decide +kernel
noncomputable def cl_b304_0 : List (Nat × e2_S) := [(3, e2_cutL (al_b304_0.set 4 (13, 11, 2147483652)) 3 (E_b304_0.take 3) h_b304_0)]
set_option maxRecDepth 1000000 in
theorem ck_b304_0 : e2_runM (e2_cal S_b304 I_b304 4000 0) (e2_fin rs_b304) e2x_188 (e2_bpL cl_b304_0) (e2_cutA cl_b304_0) 4000 (e2_seek e2x_188 3) al_b304_0 [] E_b304_0 h_b304_0 = true := by decide +kernel
set_option maxRecDepth 1000000 in
theorem ci_b304_0 : e2_idl 3 (al_b304_0.set 4 (9, 0, 0)) = true := by decide +kernel
set_option maxRecDepth 1000000 in
theorem cj_b304_0 : e2_idh 3 8 h_b304_0 = true := by decide +kernel
theorem cs_b304 (hen : en_ok) (l : Launch) : e2_smOk l 1 s_b304 := by
  refine e2_conG (H := 0) (n := 0) (C := evd_188) (S := S_b304) (I := I_b304) (fuel := 4000) hen ei_188 e2_fz e2_fz (by decide) co_b304 fun M d _ hC hcall p e R s m args below meth c Q D cA A ads r0 ha hl0 => ?_
  have L_0 : e2_gdM M p l e R s m args below meth c Q D cA A ads r0 3 al_b304_0 [] E_b304_0 h_b304_0 := by
    refine e2_indL (u := 3) (j := 4) (lo := 2147483648) (hi := 2147483652) (b := 3) (dd := 0) hl0 (by decide) rfl rfl (Or.inr ⟨rfl, rfl⟩) rfl ci_b304_0 cj_b304_0 ?_
    intro r_0 k_0 hk_0 hp_0 hs_0 hn_0
    have hl_0 : r_0.length ≤ 4 := hs_0.len rfl
    have ha_0 := ha.ext hp_0
    exact e2_fromM hen ha_0 hcall (e2_cutA_ok (e2_fa (fun al st E h hc => hn_0 al st E h hc) e2_fz)) (hC []) (X := e2x_188) ex2_188 3 ck_b304_0
  have EN_0 := e2_entL (u := 3) (j := 4) (lo := 2147483648) (hi := 2147483652) hl0 rfl rfl rfl ci_b304_0 cj_b304_0 L_0
  exact e2_from hen ha hcall (e2_cutA_ok (e2_fa (fun al st E h hc => EN_0 al st E h hc) e2_fz)) (hC []) (X := e2x_188) ex2_188 0 ck_b304_e
/-! b305 X10_thingHere -/
def as_b305 : List ev_V := [(2, 83, 0)]
def E_b305 : e2_E := [(2147483648, 2147583648, 0, 0), (2147483648, 2147483656, 1, 0), (2147483648, 2147485249, 2, 0)]
def bn1493 : e2_Q6 := (bn436, bn1384)
def bn1494 : e2_Q7 := (bn1490, bn1493)
def bn1495 : e2_Q8 := (bn733, bn1494)
noncomputable def f_b305 : ev_H := (bn1495 : e2_Q8)
def bn1496 : e2_Q6 := (bn1044, bn1384)
def bn1497 : e2_Q7 := (bn1490, bn1496)
def bn1498 : e2_Q8 := (bn733, bn1497)
noncomputable def q_b305_0 : ev_H := (bn1498 : e2_Q8)
noncomputable def rs_b305 : e2_Rs := [((11, 2147483647, 2147483651), q_b305_0)]
noncomputable def s_b305 : e2_Sm := (189, as_b305, E_b305, f_b305, rs_b305)
noncomputable def S_b305 : List e2_Sm := [s_b304]
noncomputable def I_b305 : List e2_In := []
set_option maxRecDepth 1000000 in
theorem ck_b305 : e2_run (e2_cal S_b305 I_b305 4000 0) (e2_fin rs_b305) e2x_189 (fun _ => false) (fun _ _ _ _ _ => false) 4000 (e2_seek e2x_189 0) (e2_al 1 as_b305) [] E_b305 f_b305 = true := by decide +kernel
set_option maxRecDepth 1000000 in
theorem co_b305 : e2_okSB E_b305.length as_b305 f_b305 rs_b305 = true := by decide +kernel
theorem cs_b305 (hen : en_ok) (l : Launch) : e2_smOk l 2 s_b305 := e2_con0 (H := 1) (n := 0) (C := evd_189) (S := S_b305) (I := I_b305) (fuel := 4000) [] hen ei_189 (e2_fa (cs_b304 hen l) e2_fz) e2_fz (by decide) co_b305 ex2_189 ck_b305
/-! b306 X10_here -/
def as_b306 : List ev_V := [(2, 83, 0), (2, 105, 0), (0, 4, 0), (11, 2147483648, 2147483652)]
def E_b306 : e2_E := [(2147483648, 2147583648, 0, 0), (2147483648, 2147483656, 1, 0), (2147483648, 2147485249, 2, 0)]
noncomputable def f_b306 : ev_H := (bn1137 : e2_Q8)
noncomputable def q_b306_0 : ev_H := (bn1137 : e2_Q8)
noncomputable def rs_b306 : e2_Rs := [((0, 4294967295, 0), q_b306_0)]
noncomputable def s_b306 : e2_Sm := (188, as_b306, E_b306, f_b306, rs_b306)
noncomputable def S_b306 : List e2_Sm := []
noncomputable def I_b306 : List e2_In := []
set_option maxRecDepth 1000000 in
theorem co_b306 : e2_okSB E_b306.length as_b306 f_b306 rs_b306 = true := by decide +kernel
def al_b306_0 : List ev_V := [(2, 83, 0), (2, 105, 0), (0, 4, 0), (11, 2147483648, 2147483652), (1, 3, 4294967296)]
def E_b306_0 : e2_E := [(2147483648, 2147583648, 0, 0), (2147483648, 2147483656, 1, 0), (2147483648, 2147485249, 2, 0), (2147483648, 2147483652, 3, 0)]
noncomputable def h_b306_0 : ev_H := (bn1137 : e2_Q8)
noncomputable def cl_b306_e : List (Nat × e2_S) := [(3, e2_cutL (al_b306_0.set 4 (11, 2147483648, 2147483652)) 3 (E_b306_0.take 3) h_b306_0)]
set_option maxRecDepth 1000000 in
theorem ck_b306_e : e2_run (e2_cal S_b306 I_b306 4000 0) (e2_fin rs_b306) e2x_188 (e2_bpL cl_b306_e) (e2_cutA cl_b306_e) 4000 (e2_seek e2x_188 0) (e2_al 5 as_b306) [] E_b306 f_b306 = true := by decide +kernel
noncomputable def cl_b306_0 : List (Nat × e2_S) := [(3, e2_cutL (al_b306_0.set 4 (13, 11, 2147483652)) 3 (E_b306_0.take 3) h_b306_0)]
set_option maxRecDepth 1000000 in
theorem ck_b306_0 : e2_runM (e2_cal S_b306 I_b306 4000 0) (e2_fin rs_b306) e2x_188 (e2_bpL cl_b306_0) (e2_cutA cl_b306_0) 4000 (e2_seek e2x_188 3) al_b306_0 [] E_b306_0 h_b306_0 = true := by decide +kernel
set_option maxRecDepth 1000000 in
theorem ci_b306_0 : e2_idl 3 (al_b306_0.set 4 (9, 0, 0)) = true := by decide +kernel
set_option maxRecDepth 1000000 in
theorem cj_b306_0 : e2_idh 3 8 h_b306_0 = true := by decide +kernel
theorem cs_b306 (hen : en_ok) (l : Launch) : e2_smOk l 1 s_b306 := by
  refine e2_conG (H := 0) (n := 0) (C := evd_188) (S := S_b306) (I := I_b306) (fuel := 4000) hen ei_188 e2_fz e2_fz (by decide) co_b306 fun M d _ hC hcall p e R s m args below meth c Q D cA A ads r0 ha hl0 => ?_
  have L_0 : e2_gdM M p l e R s m args below meth c Q D cA A ads r0 3 al_b306_0 [] E_b306_0 h_b306_0 := by
    refine e2_indL (u := 3) (j := 4) (lo := 2147483648) (hi := 2147483652) (b := 3) (dd := 0) hl0 (by decide) rfl rfl (Or.inr ⟨rfl, rfl⟩) rfl ci_b306_0 cj_b306_0 ?_
    intro r_0 k_0 hk_0 hp_0 hs_0 hn_0
    have hl_0 : r_0.length ≤ 4 := hs_0.len rfl
    have ha_0 := ha.ext hp_0
    exact e2_fromM hen ha_0 hcall (e2_cutA_ok (e2_fa (fun al st E h hc => hn_0 al st E h hc) e2_fz)) (hC []) (X := e2x_188) ex2_188 3 ck_b306_0
  have EN_0 := e2_entL (u := 3) (j := 4) (lo := 2147483648) (hi := 2147483652) hl0 rfl rfl rfl ci_b306_0 cj_b306_0 L_0
  exact e2_from hen ha hcall (e2_cutA_ok (e2_fa (fun al st E h hc => EN_0 al st E h hc) e2_fz)) (hC []) (X := e2x_188) ex2_188 0 ck_b306_e
/-! b307 X10_thingHere -/
def as_b307 : List ev_V := [(2, 83, 0)]
def E_b307 : e2_E := [(2147483648, 2147583648, 0, 0), (2147483648, 2147483656, 1, 0), (2147483648, 2147485249, 2, 0)]
def bn1499 : e2_Q6 := (bn1134, bn1384)
def bn1500 : e2_Q7 := (bn736, bn1499)
def bn1501 : e2_Q8 := (bn733, bn1500)
noncomputable def f_b307 : ev_H := (bn1501 : e2_Q8)
noncomputable def q_b307_0 : ev_H := (bn1501 : e2_Q8)
noncomputable def rs_b307 : e2_Rs := [((0, 4294967295, 0), q_b307_0)]
noncomputable def s_b307 : e2_Sm := (189, as_b307, E_b307, f_b307, rs_b307)
noncomputable def S_b307 : List e2_Sm := [s_b306]
noncomputable def I_b307 : List e2_In := []
set_option maxRecDepth 1000000 in
theorem ck_b307 : e2_run (e2_cal S_b307 I_b307 4000 0) (e2_fin rs_b307) e2x_189 (fun _ => false) (fun _ _ _ _ _ => false) 4000 (e2_seek e2x_189 0) (e2_al 1 as_b307) [] E_b307 f_b307 = true := by decide +kernel
set_option maxRecDepth 1000000 in
theorem co_b307 : e2_okSB E_b307.length as_b307 f_b307 rs_b307 = true := by decide +kernel
theorem cs_b307 (hen : en_ok) (l : Launch) : e2_smOk l 2 s_b307 := e2_con0 (H := 1) (n := 0) (C := evd_189) (S := S_b307) (I := I_b307) (fuel := 4000) [] hen ei_189 (e2_fa (cs_b306 hen l) e2_fz) e2_fz (by decide) co_b307 ex2_189 ck_b307
/-! b308 X10_here -/
def as_b308 : List ev_V := [(2, 83, 0), (2, 105, 0), (0, 4, 0), (11, 2147483648, 2147483652)]
def E_b308 : e2_E := [(2147483648, 2147583648, 0, 0), (2147483648, 2147483656, 1, 0), (2147483648, 2147485249, 2, 0)]
noncomputable def f_b308 : ev_H := (bn1125 : e2_Q8)
noncomputable def q_b308_0 : ev_H := (bn1125 : e2_Q8)
noncomputable def rs_b308 : e2_Rs := [((0, 4294967295, 0), q_b308_0)]
noncomputable def s_b308 : e2_Sm := (188, as_b308, E_b308, f_b308, rs_b308)
noncomputable def S_b308 : List e2_Sm := []
noncomputable def I_b308 : List e2_In := []
set_option maxRecDepth 1000000 in
theorem co_b308 : e2_okSB E_b308.length as_b308 f_b308 rs_b308 = true := by decide +kernel
def al_b308_0 : List ev_V := [(2, 83, 0), (2, 105, 0), (0, 4, 0), (11, 2147483648, 2147483652), (1, 3, 4294967296)]
def E_b308_0 : e2_E := [(2147483648, 2147583648, 0, 0), (2147483648, 2147483656, 1, 0), (2147483648, 2147485249, 2, 0), (2147483648, 2147483652, 3, 0)]
noncomputable def h_b308_0 : ev_H := (bn1125 : e2_Q8)
noncomputable def cl_b308_e : List (Nat × e2_S) := [(3, e2_cutL (al_b308_0.set 4 (11, 2147483648, 2147483652)) 3 (E_b308_0.take 3) h_b308_0)]
set_option maxRecDepth 1000000 in
theorem ck_b308_e : e2_run (e2_cal S_b308 I_b308 4000 0) (e2_fin rs_b308) e2x_188 (e2_bpL cl_b308_e) (e2_cutA cl_b308_e) 4000 (e2_seek e2x_188 0) (e2_al 5 as_b308) [] E_b308 f_b308 = true := by decide +kernel
noncomputable def cl_b308_0 : List (Nat × e2_S) := [(3, e2_cutL (al_b308_0.set 4 (13, 11, 2147483652)) 3 (E_b308_0.take 3) h_b308_0)]
set_option maxRecDepth 1000000 in
theorem ck_b308_0 : e2_runM (e2_cal S_b308 I_b308 4000 0) (e2_fin rs_b308) e2x_188 (e2_bpL cl_b308_0) (e2_cutA cl_b308_0) 4000 (e2_seek e2x_188 3) al_b308_0 [] E_b308_0 h_b308_0 = true := by decide +kernel
set_option maxRecDepth 1000000 in
theorem ci_b308_0 : e2_idl 3 (al_b308_0.set 4 (9, 0, 0)) = true := by decide +kernel
set_option maxRecDepth 1000000 in
theorem cj_b308_0 : e2_idh 3 8 h_b308_0 = true := by decide +kernel
theorem cs_b308 (hen : en_ok) (l : Launch) : e2_smOk l 1 s_b308 := by
  refine e2_conG (H := 0) (n := 0) (C := evd_188) (S := S_b308) (I := I_b308) (fuel := 4000) hen ei_188 e2_fz e2_fz (by decide) co_b308 fun M d _ hC hcall p e R s m args below meth c Q D cA A ads r0 ha hl0 => ?_
  have L_0 : e2_gdM M p l e R s m args below meth c Q D cA A ads r0 3 al_b308_0 [] E_b308_0 h_b308_0 := by
    refine e2_indL (u := 3) (j := 4) (lo := 2147483648) (hi := 2147483652) (b := 3) (dd := 0) hl0 (by decide) rfl rfl (Or.inr ⟨rfl, rfl⟩) rfl ci_b308_0 cj_b308_0 ?_
    intro r_0 k_0 hk_0 hp_0 hs_0 hn_0
    have hl_0 : r_0.length ≤ 4 := hs_0.len rfl
    have ha_0 := ha.ext hp_0
    exact e2_fromM hen ha_0 hcall (e2_cutA_ok (e2_fa (fun al st E h hc => hn_0 al st E h hc) e2_fz)) (hC []) (X := e2x_188) ex2_188 3 ck_b308_0
  have EN_0 := e2_entL (u := 3) (j := 4) (lo := 2147483648) (hi := 2147483652) hl0 rfl rfl rfl ci_b308_0 cj_b308_0 L_0
  exact e2_from hen ha hcall (e2_cutA_ok (e2_fa (fun al st E h hc => EN_0 al st E h hc) e2_fz)) (hC []) (X := e2x_188) ex2_188 0 ck_b308_e
/-! b309 X10_thingHere -/
def as_b309 : List ev_V := [(2, 83, 0)]
def E_b309 : e2_E := [(2147483648, 2147583648, 0, 0), (2147483648, 2147483656, 1, 0), (2147483648, 2147485249, 2, 0)]
def bn1502 : e2_Q6 := (bn1122, bn1384)
def bn1503 : e2_Q7 := (bn736, bn1502)
def bn1504 : e2_Q8 := (bn733, bn1503)
noncomputable def f_b309 : ev_H := (bn1504 : e2_Q8)
noncomputable def q_b309_0 : ev_H := (bn1504 : e2_Q8)
noncomputable def rs_b309 : e2_Rs := [((0, 4294967295, 0), q_b309_0)]
noncomputable def s_b309 : e2_Sm := (189, as_b309, E_b309, f_b309, rs_b309)
noncomputable def S_b309 : List e2_Sm := [s_b308]
noncomputable def I_b309 : List e2_In := []
set_option maxRecDepth 1000000 in
theorem ck_b309 : e2_run (e2_cal S_b309 I_b309 4000 0) (e2_fin rs_b309) e2x_189 (fun _ => false) (fun _ _ _ _ _ => false) 4000 (e2_seek e2x_189 0) (e2_al 1 as_b309) [] E_b309 f_b309 = true := by decide +kernel
set_option maxRecDepth 1000000 in
theorem co_b309 : e2_okSB E_b309.length as_b309 f_b309 rs_b309 = true := by decide +kernel
theorem cs_b309 (hen : en_ok) (l : Launch) : e2_smOk l 2 s_b309 := e2_con0 (H := 1) (n := 0) (C := evd_189) (S := S_b309) (I := I_b309) (fuel := 4000) [] hen ei_189 (e2_fa (cs_b308 hen l) e2_fz) e2_fz (by decide) co_b309 ex2_189 ck_b309
/-! b310 X10_here -/
def as_b310 : List ev_V := [(2, 83, 0), (2, 105, 0), (0, 4, 0), (11, 2147483648, 2147483652)]
def E_b310 : e2_E := [(2147483648, 2147583648, 0, 0), (2147483648, 2147483656, 1, 0), (2147483648, 2147485249, 2, 0)]
def bn1505 : e2_Q7 := (bn1490, bn461)
def bn1506 : e2_Q8 := (bn733, bn1505)
noncomputable def f_b310 : ev_H := (bn1506 : e2_Q8)
noncomputable def q_b310_0 : ev_H := (bn1506 : e2_Q8)
noncomputable def rs_b310 : e2_Rs := [((11, 2147483647, 2147483651), q_b310_0)]
noncomputable def s_b310 : e2_Sm := (188, as_b310, E_b310, f_b310, rs_b310)
noncomputable def S_b310 : List e2_Sm := []
noncomputable def I_b310 : List e2_In := []
set_option maxRecDepth 1000000 in
theorem co_b310 : e2_okSB E_b310.length as_b310 f_b310 rs_b310 = true := by decide +kernel
def al_b310_0 : List ev_V := [(2, 83, 0), (2, 105, 0), (0, 4, 0), (11, 2147483648, 2147483652), (1, 3, 4294967296)]
def E_b310_0 : e2_E := [(2147483648, 2147583648, 0, 0), (2147483648, 2147483656, 1, 0), (2147483648, 2147485249, 2, 0), (2147483648, 2147483652, 3, 0)]
noncomputable def h_b310_0 : ev_H := (bn1506 : e2_Q8)
noncomputable def cl_b310_e : List (Nat × e2_S) := [(3, e2_cutL (al_b310_0.set 4 (11, 2147483648, 2147483652)) 3 (E_b310_0.take 3) h_b310_0)]
set_option maxRecDepth 1000000 in
theorem ck_b310_e : e2_run (e2_cal S_b310 I_b310 4000 0) (e2_fin rs_b310) e2x_188 (e2_bpL cl_b310_e) (e2_cutA cl_b310_e) 4000 (e2_seek e2x_188 0) (e2_al 5 as_b310) [] E_b310 f_b310 = true := by decide +kernel
noncomputable def cl_b310_0 : List (Nat × e2_S) := [(3, e2_cutL (al_b310_0.set 4 (13, 11, 2147483652)) 3 (E_b310_0.take 3) h_b310_0)]
set_option maxRecDepth 1000000 in
theorem ck_b310_0 : e2_runM (e2_cal S_b310 I_b310 4000 0) (e2_fin rs_b310) e2x_188 (e2_bpL cl_b310_0) (e2_cutA cl_b310_0) 4000 (e2_seek e2x_188 3) al_b310_0 [] E_b310_0 h_b310_0 = true := by decide +kernel
set_option maxRecDepth 1000000 in
theorem ci_b310_0 : e2_idl 3 (al_b310_0.set 4 (9, 0, 0)) = true := by decide +kernel
set_option maxRecDepth 1000000 in
theorem cj_b310_0 : e2_idh 3 8 h_b310_0 = true := by decide +kernel
theorem cs_b310 (hen : en_ok) (l : Launch) : e2_smOk l 1 s_b310 := by
  refine e2_conG (H := 0) (n := 0) (C := evd_188) (S := S_b310) (I := I_b310) (fuel := 4000) hen ei_188 e2_fz e2_fz (by decide) co_b310 fun M d _ hC hcall p e R s m args below meth c Q D cA A ads r0 ha hl0 => ?_
  have L_0 : e2_gdM M p l e R s m args below meth c Q D cA A ads r0 3 al_b310_0 [] E_b310_0 h_b310_0 := by
    refine e2_indL (u := 3) (j := 4) (lo := 2147483648) (hi := 2147483652) (b := 3) (dd := 0) hl0 (by decide) rfl rfl (Or.inr ⟨rfl, rfl⟩) rfl ci_b310_0 cj_b310_0 ?_
    intro r_0 k_0 hk_0 hp_0 hs_0 hn_0
    have hl_0 : r_0.length ≤ 4 := hs_0.len rfl
    have ha_0 := ha.ext hp_0
    exact e2_fromM hen ha_0 hcall (e2_cutA_ok (e2_fa (fun al st E h hc => hn_0 al st E h hc) e2_fz)) (hC []) (X := e2x_188) ex2_188 3 ck_b310_0
  have EN_0 := e2_entL (u := 3) (j := 4) (lo := 2147483648) (hi := 2147483652) hl0 rfl rfl rfl ci_b310_0 cj_b310_0 L_0
  exact e2_from hen ha hcall (e2_cutA_ok (e2_fa (fun al st E h hc => EN_0 al st E h hc) e2_fz)) (hC []) (X := e2x_188) ex2_188 0 ck_b310_e
/-! b311 X10_thingHere -/
def as_b311 : List ev_V := [(2, 83, 0)]
def E_b311 : e2_E := [(2147483648, 2147583648, 0, 0), (2147483648, 2147483656, 1, 0), (2147483648, 2147485249, 2, 0)]
def bn1507 : e2_Q6 := (bn460, bn1384)
def bn1508 : e2_Q7 := (bn1490, bn1507)
def bn1509 : e2_Q8 := (bn733, bn1508)
noncomputable def f_b311 : ev_H := (bn1509 : e2_Q8)
noncomputable def q_b311_0 : ev_H := (bn1509 : e2_Q8)
noncomputable def rs_b311 : e2_Rs := [((11, 2147483647, 2147483651), q_b311_0)]
noncomputable def s_b311 : e2_Sm := (189, as_b311, E_b311, f_b311, rs_b311)
noncomputable def S_b311 : List e2_Sm := [s_b310]
noncomputable def I_b311 : List e2_In := []
set_option maxRecDepth 1000000 in
theorem ck_b311 : e2_run (e2_cal S_b311 I_b311 4000 0) (e2_fin rs_b311) e2x_189 (fun _ => false) (fun _ _ _ _ _ => false) 4000 (e2_seek e2x_189 0) (e2_al 1 as_b311) [] E_b311 f_b311 = true := by decide +kernel
set_option maxRecDepth 1000000 in
theorem co_b311 : e2_okSB E_b311.length as_b311 f_b311 rs_b311 = true := by decide +kernel
theorem cs_b311 (hen : en_ok) (l : Launch) : e2_smOk l 2 s_b311 := e2_con0 (H := 1) (n := 0) (C := evd_189) (S := S_b311) (I := I_b311) (fuel := 4000) [] hen ei_189 (e2_fa (cs_b310 hen l) e2_fz) e2_fz (by decide) co_b311 ex2_189 ck_b311
/-! b312 X10_here -/
def as_b312 : List ev_V := [(2, 83, 0), (2, 105, 0), (0, 4, 0), (11, 2147483648, 2147483652)]
def E_b312 : e2_E := [(2147483648, 2147583648, 0, 0), (2147483648, 2147483656, 1, 0), (2147483648, 2147485249, 2, 0)]
def bn1510 : e2_Q7 := (bn1490, bn1143)
def bn1511 : e2_Q8 := (bn733, bn1510)
noncomputable def f_b312 : ev_H := (bn1511 : e2_Q8)
noncomputable def q_b312_0 : ev_H := (bn1511 : e2_Q8)
noncomputable def rs_b312 : e2_Rs := [((11, 2147483647, 2147483651), q_b312_0)]
noncomputable def s_b312 : e2_Sm := (188, as_b312, E_b312, f_b312, rs_b312)
noncomputable def S_b312 : List e2_Sm := []
noncomputable def I_b312 : List e2_In := []
set_option maxRecDepth 1000000 in
theorem co_b312 : e2_okSB E_b312.length as_b312 f_b312 rs_b312 = true := by decide +kernel
def al_b312_0 : List ev_V := [(2, 83, 0), (2, 105, 0), (0, 4, 0), (11, 2147483648, 2147483652), (1, 3, 4294967296)]
def E_b312_0 : e2_E := [(2147483648, 2147583648, 0, 0), (2147483648, 2147483656, 1, 0), (2147483648, 2147485249, 2, 0), (2147483648, 2147483652, 3, 0)]
noncomputable def h_b312_0 : ev_H := (bn1511 : e2_Q8)
noncomputable def cl_b312_e : List (Nat × e2_S) := [(3, e2_cutL (al_b312_0.set 4 (11, 2147483648, 2147483652)) 3 (E_b312_0.take 3) h_b312_0)]
set_option maxRecDepth 1000000 in
theorem ck_b312_e : e2_run (e2_cal S_b312 I_b312 4000 0) (e2_fin rs_b312) e2x_188 (e2_bpL cl_b312_e) (e2_cutA cl_b312_e) 4000 (e2_seek e2x_188 0) (e2_al 5 as_b312) [] E_b312 f_b312 = true := by decide +kernel
noncomputable def cl_b312_0 : List (Nat × e2_S) := [(3, e2_cutL (al_b312_0.set 4 (13, 11, 2147483652)) 3 (E_b312_0.take 3) h_b312_0)]
set_option maxRecDepth 1000000 in
theorem ck_b312_0 : e2_runM (e2_cal S_b312 I_b312 4000 0) (e2_fin rs_b312) e2x_188 (e2_bpL cl_b312_0) (e2_cutA cl_b312_0) 4000 (e2_seek e2x_188 3) al_b312_0 [] E_b312_0 h_b312_0 = true := by decide +kernel
set_option maxRecDepth 1000000 in
theorem ci_b312_0 : e2_idl 3 (al_b312_0.set 4 (9, 0, 0)) = true := by decide +kernel
set_option maxRecDepth 1000000 in
theorem cj_b312_0 : e2_idh 3 8 h_b312_0 = true := by decide +kernel
theorem cs_b312 (hen : en_ok) (l : Launch) : e2_smOk l 1 s_b312 := by
  refine e2_conG (H := 0) (n := 0) (C := evd_188) (S := S_b312) (I := I_b312) (fuel := 4000) hen ei_188 e2_fz e2_fz (by decide) co_b312 fun M d _ hC hcall p e R s m args below meth c Q D cA A ads r0 ha hl0 => ?_
  have L_0 : e2_gdM M p l e R s m args below meth c Q D cA A ads r0 3 al_b312_0 [] E_b312_0 h_b312_0 := by
    refine e2_indL (u := 3) (j := 4) (lo := 2147483648) (hi := 2147483652) (b := 3) (dd := 0) hl0 (by decide) rfl rfl (Or.inr ⟨rfl, rfl⟩) rfl ci_b312_0 cj_b312_0 ?_
    intro r_0 k_0 hk_0 hp_0 hs_0 hn_0
    have hl_0 : r_0.length ≤ 4 := hs_0.len rfl
    have ha_0 := ha.ext hp_0
    exact e2_fromM hen ha_0 hcall (e2_cutA_ok (e2_fa (fun al st E h hc => hn_0 al st E h hc) e2_fz)) (hC []) (X := e2x_188) ex2_188 3 ck_b312_0
  have EN_0 := e2_entL (u := 3) (j := 4) (lo := 2147483648) (hi := 2147483652) hl0 rfl rfl rfl ci_b312_0 cj_b312_0 L_0
  exact e2_from hen ha hcall (e2_cutA_ok (e2_fa (fun al st E h hc => EN_0 al st E h hc) e2_fz)) (hC []) (X := e2x_188) ex2_188 0 ck_b312_e
/-! b313 X10_thingHere -/
def as_b313 : List ev_V := [(2, 83, 0)]
def E_b313 : e2_E := [(2147483648, 2147583648, 0, 0), (2147483648, 2147483656, 1, 0), (2147483648, 2147485249, 2, 0)]
def bn1512 : e2_Q6 := (bn1142, bn1384)
def bn1513 : e2_Q7 := (bn1490, bn1512)
def bn1514 : e2_Q8 := (bn733, bn1513)
noncomputable def f_b313 : ev_H := (bn1514 : e2_Q8)
noncomputable def q_b313_0 : ev_H := (bn1514 : e2_Q8)
noncomputable def rs_b313 : e2_Rs := [((11, 2147483647, 2147483651), q_b313_0)]
noncomputable def s_b313 : e2_Sm := (189, as_b313, E_b313, f_b313, rs_b313)
noncomputable def S_b313 : List e2_Sm := [s_b312]
noncomputable def I_b313 : List e2_In := []
set_option maxRecDepth 1000000 in
theorem ck_b313 : e2_run (e2_cal S_b313 I_b313 4000 0) (e2_fin rs_b313) e2x_189 (fun _ => false) (fun _ _ _ _ _ => false) 4000 (e2_seek e2x_189 0) (e2_al 1 as_b313) [] E_b313 f_b313 = true := by decide +kernel
set_option maxRecDepth 1000000 in
theorem co_b313 : e2_okSB E_b313.length as_b313 f_b313 rs_b313 = true := by decide +kernel
theorem cs_b313 (hen : en_ok) (l : Launch) : e2_smOk l 2 s_b313 := e2_con0 (H := 1) (n := 0) (C := evd_189) (S := S_b313) (I := I_b313) (fuel := 4000) [] hen ei_189 (e2_fa (cs_b312 hen l) e2_fz) e2_fz (by decide) co_b313 ex2_189 ck_b313
/-! b314 X10_here -/
def as_b314 : List ev_V := [(2, 83, 0), (2, 105, 0), (0, 4, 0), (11, 2147483648, 2147483652)]
def E_b314 : e2_E := [(2147483648, 2147583648, 0, 0), (2147483648, 2147483656, 1, 0), (2147483648, 2147485249, 2, 0)]
def bn1515 : e2_Q7 := (bn1490, bn451)
def bn1516 : e2_Q8 := (bn733, bn1515)
noncomputable def f_b314 : ev_H := (bn1516 : e2_Q8)
noncomputable def q_b314_0 : ev_H := (bn1511 : e2_Q8)
noncomputable def q_b314_1 : ev_H := (bn1516 : e2_Q8)
noncomputable def rs_b314 : e2_Rs := [((11, 2147483648, 2147483651), q_b314_0), ((0, 4294967295, 0), q_b314_1)]
noncomputable def s_b314 : e2_Sm := (188, as_b314, E_b314, f_b314, rs_b314)
noncomputable def S_b314 : List e2_Sm := []
noncomputable def I_b314 : List e2_In := []
set_option maxRecDepth 1000000 in
theorem co_b314 : e2_okSB E_b314.length as_b314 f_b314 rs_b314 = true := by decide +kernel
def al_b314_0 : List ev_V := [(2, 83, 0), (2, 105, 0), (0, 4, 0), (11, 2147483648, 2147483652), (1, 3, 4294967296)]
def E_b314_0 : e2_E := [(2147483648, 2147583648, 0, 0), (2147483648, 2147483656, 1, 0), (2147483648, 2147485249, 2, 0), (2147483648, 2147483652, 3, 0)]
noncomputable def h_b314_0 : ev_H := (bn1516 : e2_Q8)
noncomputable def cl_b314_e : List (Nat × e2_S) := [(3, e2_cutL (al_b314_0.set 4 (11, 2147483648, 2147483652)) 3 (E_b314_0.take 3) h_b314_0)]
set_option maxRecDepth 1000000 in
theorem ck_b314_e : e2_run (e2_cal S_b314 I_b314 4000 0) (e2_fin rs_b314) e2x_188 (e2_bpL cl_b314_e) (e2_cutA cl_b314_e) 4000 (e2_seek e2x_188 0) (e2_al 5 as_b314) [] E_b314 f_b314 = true := by decide +kernel
noncomputable def cl_b314_0 : List (Nat × e2_S) := [(3, e2_cutL (al_b314_0.set 4 (13, 11, 2147483652)) 3 (E_b314_0.take 3) h_b314_0)]
set_option maxRecDepth 1000000 in
theorem ck_b314_0 : e2_runM (e2_cal S_b314 I_b314 4000 0) (e2_fin rs_b314) e2x_188 (e2_bpL cl_b314_0) (e2_cutA cl_b314_0) 4000 (e2_seek e2x_188 3) al_b314_0 [] E_b314_0 h_b314_0 = true := by decide +kernel
set_option maxRecDepth 1000000 in
theorem ci_b314_0 : e2_idl 3 (al_b314_0.set 4 (9, 0, 0)) = true := by decide +kernel
set_option maxRecDepth 1000000 in
theorem cj_b314_0 : e2_idh 3 8 h_b314_0 = true := by decide +kernel
theorem cs_b314 (hen : en_ok) (l : Launch) : e2_smOk l 1 s_b314 := by
  refine e2_conG (H := 0) (n := 0) (C := evd_188) (S := S_b314) (I := I_b314) (fuel := 4000) hen ei_188 e2_fz e2_fz (by decide) co_b314 fun M d _ hC hcall p e R s m args below meth c Q D cA A ads r0 ha hl0 => ?_
  have L_0 : e2_gdM M p l e R s m args below meth c Q D cA A ads r0 3 al_b314_0 [] E_b314_0 h_b314_0 := by
    refine e2_indL (u := 3) (j := 4) (lo := 2147483648) (hi := 2147483652) (b := 3) (dd := 0) hl0 (by decide) rfl rfl (Or.inr ⟨rfl, rfl⟩) rfl ci_b314_0 cj_b314_0 ?_
    intro r_0 k_0 hk_0 hp_0 hs_0 hn_0
    have hl_0 : r_0.length ≤ 4 := hs_0.len rfl
    have ha_0 := ha.ext hp_0
    exact e2_fromM hen ha_0 hcall (e2_cutA_ok (e2_fa (fun al st E h hc => hn_0 al st E h hc) e2_fz)) (hC []) (X := e2x_188) ex2_188 3 ck_b314_0
  have EN_0 := e2_entL (u := 3) (j := 4) (lo := 2147483648) (hi := 2147483652) hl0 rfl rfl rfl ci_b314_0 cj_b314_0 L_0
  exact e2_from hen ha hcall (e2_cutA_ok (e2_fa (fun al st E h hc => EN_0 al st E h hc) e2_fz)) (hC []) (X := e2x_188) ex2_188 0 ck_b314_e
/-! b315 X10_thingHere -/
def as_b315 : List ev_V := [(2, 83, 0)]
def E_b315 : e2_E := [(2147483648, 2147583648, 0, 0), (2147483648, 2147483656, 1, 0), (2147483648, 2147485249, 2, 0)]
def bn1517 : e2_Q6 := (bn450, bn1384)
def bn1518 : e2_Q7 := (bn1490, bn1517)
def bn1519 : e2_Q8 := (bn733, bn1518)
noncomputable def f_b315 : ev_H := (bn1519 : e2_Q8)
noncomputable def q_b315_0 : ev_H := (bn1519 : e2_Q8)
noncomputable def q_b315_1 : ev_H := (bn1514 : e2_Q8)
noncomputable def rs_b315 : e2_Rs := [((0, 4294967295, 0), q_b315_0), ((11, 2147483648, 2147483651), q_b315_1)]
noncomputable def s_b315 : e2_Sm := (189, as_b315, E_b315, f_b315, rs_b315)
noncomputable def S_b315 : List e2_Sm := [s_b314]
noncomputable def I_b315 : List e2_In := []
set_option maxRecDepth 1000000 in
theorem ck_b315 : e2_run (e2_cal S_b315 I_b315 4000 0) (e2_fin rs_b315) e2x_189 (fun _ => false) (fun _ _ _ _ _ => false) 4000 (e2_seek e2x_189 0) (e2_al 1 as_b315) [] E_b315 f_b315 = true := by decide +kernel
set_option maxRecDepth 1000000 in
theorem co_b315 : e2_okSB E_b315.length as_b315 f_b315 rs_b315 = true := by decide +kernel
theorem cs_b315 (hen : en_ok) (l : Launch) : e2_smOk l 2 s_b315 := e2_con0 (H := 1) (n := 0) (C := evd_189) (S := S_b315) (I := I_b315) (fuel := 4000) [] hen ei_189 (e2_fa (cs_b314 hen l) e2_fz) e2_fz (by decide) co_b315 ex2_189 ck_b315
/-! b316 X10_readGlyph -/
def as_b316 : List ev_V := [(2, 83, 0)]
def E_b316 : e2_E := [(2147483648, 2147583648, 0, 0), (2147483648, 2147483656, 1, 0), (2147483648, 2147485249, 2, 0)]
def bn1520 : e2_Q5 := (bn350, bn1488)
def bn1521 : e2_Q6 := (bn1520, bn356)
def bn1522 : e2_Q4 := (bn1402, bn280)
def bn1523 : e2_Q5 := (bn1522, bn365)
def bn1524 : e2_Q6 := (bn1523, bn1384)
def bn1525 : e2_Q7 := (bn1521, bn1524)
def bn1526 : e2_Q8 := (bn1400, bn1525)
noncomputable def f_b316 : ev_H := (bn1526 : e2_Q8)
def bn1527 : e2_Q5 := (bn405, bn1488)
def bn1528 : e2_Q6 := (bn1527, bn356)
def bn1529 : e2_Q4 := (bn1402, bn1132)
def bn1530 : e2_Q5 := (bn1529, bn365)
def bn1531 : e2_Q6 := (bn1530, bn1384)
def bn1532 : e2_Q7 := (bn1528, bn1531)
def bn1533 : e2_Q8 := (bn1414, bn1532)
noncomputable def q_b316_0 : ev_H := (bn1533 : e2_Q8)
def bn1534 : e2_Q4 := (bn1402, bn1140)
def bn1535 : e2_Q5 := (bn1534, bn365)
def bn1536 : e2_Q6 := (bn1535, bn1384)
def bn1537 : e2_Q7 := (bn1521, bn1536)
def bn1538 : e2_Q8 := (bn1414, bn1537)
noncomputable def q_b316_1 : ev_H := (bn1538 : e2_Q8)
def bn1539 : e2_Q4 := (bn1402, bn998)
def bn1540 : e2_Q5 := (bn1539, bn365)
def bn1541 : e2_Q6 := (bn1540, bn1384)
def bn1542 : e2_Q7 := (bn1528, bn1541)
def bn1543 : e2_Q8 := (bn1414, bn1542)
noncomputable def q_b316_2 : ev_H := (bn1543 : e2_Q8)
def bn1544 : e2_Q4 := (bn1402, bn1006)
def bn1545 : e2_Q5 := (bn1544, bn365)
def bn1546 : e2_Q6 := (bn1545, bn1384)
def bn1547 : e2_Q7 := (bn1528, bn1546)
def bn1548 : e2_Q8 := (bn1414, bn1547)
noncomputable def q_b316_3 : ev_H := (bn1548 : e2_Q8)
def bn1549 : e2_Q4 := (bn1402, bn1014)
def bn1550 : e2_Q5 := (bn1549, bn365)
def bn1551 : e2_Q6 := (bn1550, bn1384)
def bn1552 : e2_Q7 := (bn1528, bn1551)
def bn1553 : e2_Q8 := (bn1414, bn1552)
noncomputable def q_b316_4 : ev_H := (bn1553 : e2_Q8)
def bn1554 : e2_Q4 := (bn1402, bn934)
def bn1555 : e2_Q5 := (bn1554, bn365)
def bn1556 : e2_Q6 := (bn1555, bn1384)
def bn1557 : e2_Q7 := (bn1528, bn1556)
def bn1558 : e2_Q8 := (bn1414, bn1557)
noncomputable def q_b316_5 : ev_H := (bn1558 : e2_Q8)
def bn1559 : e2_Q4 := (bn1402, bn1022)
def bn1560 : e2_Q5 := (bn1559, bn365)
def bn1561 : e2_Q6 := (bn1560, bn1384)
def bn1562 : e2_Q7 := (bn1528, bn1561)
def bn1563 : e2_Q8 := (bn1414, bn1562)
noncomputable def q_b316_6 : ev_H := (bn1563 : e2_Q8)
def bn1564 : e2_Q4 := (bn1402, bn1120)
def bn1565 : e2_Q5 := (bn1564, bn365)
def bn1566 : e2_Q6 := (bn1565, bn1384)
def bn1567 : e2_Q7 := (bn1528, bn1566)
def bn1568 : e2_Q8 := (bn1414, bn1567)
noncomputable def q_b316_7 : ev_H := (bn1568 : e2_Q8)
def bn1569 : e2_Q7 := (bn1528, bn1417)
def bn1570 : e2_Q8 := (bn1414, bn1569)
noncomputable def q_b316_8 : ev_H := (bn1570 : e2_Q8)
def bn1571 : e2_Q7 := (bn1528, bn1459)
def bn1572 : e2_Q8 := (bn1414, bn1571)
noncomputable def q_b316_9 : ev_H := (bn1572 : e2_Q8)
def bn1573 : e2_Q4 := (bn1402, bn304)
def bn1574 : e2_Q5 := (bn1573, bn365)
def bn1575 : e2_Q6 := (bn1574, bn1384)
def bn1576 : e2_Q7 := (bn1521, bn1575)
def bn1577 : e2_Q8 := (bn1414, bn1576)
noncomputable def q_b316_10 : ev_H := (bn1577 : e2_Q8)
noncomputable def rs_b316 : e2_Rs := [((9, 0, 0), q_b316_0), ((9, 0, 0), q_b316_1), ((9, 0, 0), q_b316_2), ((9, 0, 0), q_b316_3), ((9, 0, 0), q_b316_4), ((9, 0, 0), q_b316_5), ((9, 0, 0), q_b316_6), ((9, 0, 0), q_b316_7), ((9, 0, 0), q_b316_8), ((9, 0, 0), q_b316_9), ((9, 0, 0), q_b316_10)]
noncomputable def s_b316 : e2_Sm := (196, as_b316, E_b316, f_b316, rs_b316)
noncomputable def S_b316 : List e2_Sm := [s_b19, s_b20, s_b21, s_b22, s_b23, s_b24, s_b181, s_b183, s_b184, s_b186, s_b188, s_b190, s_b191, s_b192, s_b232, s_b233, s_b235, s_b236, s_b237, s_b238, s_b239, s_b240, s_b241, s_b242, s_b243, s_b244, s_b257, s_b259, s_b278, s_b280, s_b282, s_b284, s_b285, s_b286, s_b287, s_b288, s_b289, s_b290, s_b291, s_b292, s_b293, s_b294, s_b295, s_b297, s_b299, s_b301, s_b303, s_b305, s_b307, s_b309, s_b311, s_b313, s_b315]
noncomputable def I_b316 : List e2_In := [(179, 3, e2x_179)]
set_option maxRecDepth 1000000 in
theorem ck_b316 : e2_run (e2_cal S_b316 I_b316 4000 1) (e2_fin rs_b316) e2x_196 (fun _ => false) (fun _ _ _ _ _ => false) 4000 (e2_seek e2x_196 0) (e2_al 2 as_b316) [] E_b316 f_b316 = true := by decide +kernel
set_option maxRecDepth 1000000 in
theorem co_b316 : e2_okSB E_b316.length as_b316 f_b316 rs_b316 = true := by decide +kernel
theorem cs_b316 (hen : en_ok) (l : Launch) (hh : e2_hand_b l) : e2_smOk l 62 s_b316 := e2_con0 (H := 60) (n := 1) (C := evd_196) (S := S_b316) (I := I_b316) (fuel := 4000) [] hen ei_196 (e2_fa (hh _ hm_b19) (e2_fa (hh _ hm_b20) (e2_fa (hh _ hm_b21) (e2_fa (hh _ hm_b22) (e2_fa (hh _ hm_b23) (e2_fa (hh _ hm_b24) (e2_fa ((cs_b181 hen l).mono (by decide)) (e2_fa ((cs_b183 hen l).mono (by decide)) (e2_fa ((cs_b184 hen l).mono (by decide)) (e2_fa ((cs_b186 hen l).mono (by decide)) (e2_fa ((cs_b188 hen l).mono (by decide)) (e2_fa ((cs_b190 hen l).mono (by decide)) (e2_fa ((cs_b191 hen l).mono (by decide)) (e2_fa ((cs_b192 hen l).mono (by decide)) (e2_fa ((cs_b232 hen l).mono (by decide)) (e2_fa ((cs_b233 hen l).mono (by decide)) (e2_fa ((cs_b235 hen l).mono (by decide)) (e2_fa ((cs_b236 hen l).mono (by decide)) (e2_fa ((cs_b237 hen l).mono (by decide)) (e2_fa ((cs_b238 hen l).mono (by decide)) (e2_fa ((cs_b239 hen l).mono (by decide)) (e2_fa ((cs_b240 hen l).mono (by decide)) (e2_fa ((cs_b241 hen l).mono (by decide)) (e2_fa ((cs_b242 hen l).mono (by decide)) (e2_fa ((cs_b243 hen l).mono (by decide)) (e2_fa ((cs_b244 hen l).mono (by decide)) (e2_fa ((cs_b257 hen l).mono (by decide)) (e2_fa ((cs_b259 hen l).mono (by decide)) (e2_fa ((cs_b278 hen l).mono (by decide)) (e2_fa ((cs_b280 hen l).mono (by decide)) (e2_fa ((cs_b282 hen l).mono (by decide)) (e2_fa ((cs_b284 hen l).mono (by decide)) (e2_fa ((cs_b285 hen l).mono (by decide)) (e2_fa ((cs_b286 hen l).mono (by decide)) (e2_fa ((cs_b287 hen l).mono (by decide)) (e2_fa ((cs_b288 hen l).mono (by decide)) (e2_fa ((cs_b289 hen l).mono (by decide)) (e2_fa ((cs_b290 hen l).mono (by decide)) (e2_fa ((cs_b291 hen l).mono (by decide)) (e2_fa ((cs_b292 hen l).mono (by decide)) (e2_fa ((cs_b293 hen l).mono (by decide)) (e2_fa ((cs_b294 hen l).mono (by decide)) (e2_fa ((cs_b295 hen l).mono (by decide)) (e2_fa ((cs_b297 hen l).mono (by decide)) (e2_fa ((cs_b299 hen l).mono (by decide)) (e2_fa ((cs_b301 hen l).mono (by decide)) (e2_fa ((cs_b303 hen l).mono (by decide)) (e2_fa ((cs_b305 hen l).mono (by decide)) (e2_fa ((cs_b307 hen l).mono (by decide)) (e2_fa ((cs_b309 hen l).mono (by decide)) (e2_fa ((cs_b311 hen l).mono (by decide)) (e2_fa ((cs_b313 hen l).mono (by decide)) (e2_fa ((cs_b315 hen l).mono (by decide)) e2_fz))))))))))))))))))))))))))))))))))))))))))))))))))))) (e2_fa ein_179 e2_fz) (by decide) co_b316 ex2_196 ck_b316
/-! b317 X10_readNever -/
def as_b317 : List ev_V := [(2, 83, 0)]
def E_b317 : e2_E := [(2147483648, 2147583648, 0, 0), (2147483648, 2147483656, 1, 0), (2147483648, 2147485249, 2, 0)]
noncomputable def f_b317 : ev_H := (bn1383 : e2_Q8)
def bn1578 : e2_Q8 := (bn1382, bn1084)
noncomputable def q_b317_0 : ev_H := (bn1578 : e2_Q8)
noncomputable def rs_b317 : e2_Rs := [((9, 0, 0), q_b317_0)]
noncomputable def s_b317 : e2_Sm := (197, as_b317, E_b317, f_b317, rs_b317)
noncomputable def S_b317 : List e2_Sm := [s_b256, s_b285]
noncomputable def I_b317 : List e2_In := [(174, 1, e2x_174)]
set_option maxRecDepth 1000000 in
theorem ck_b317 : e2_run (e2_cal S_b317 I_b317 4000 1) (e2_fin rs_b317) e2x_197 (fun _ => false) (fun _ _ _ _ _ => false) 4000 (e2_seek e2x_197 0) (e2_al 3 as_b317) [] E_b317 f_b317 = true := by decide +kernel
set_option maxRecDepth 1000000 in
theorem co_b317 : e2_okSB E_b317.length as_b317 f_b317 rs_b317 = true := by decide +kernel
theorem cs_b317 (hen : en_ok) (l : Launch) : e2_smOk l 5 s_b317 := e2_con0 (H := 3) (n := 1) (C := evd_197) (S := S_b317) (I := I_b317) (fuel := 4000) [] hen ei_197 (e2_fa ((cs_b256 hen l).mono (by decide)) (e2_fa (cs_b285 hen l) e2_fz)) (e2_fa ein_174 e2_fz) (by decide) co_b317 ex2_197 ck_b317
/-! b318 X10_known -/
def as_b318 : List ev_V := [(2, 83, 0), (0, 4294967295, 0)]
def E_b318 : e2_E := [(2147483648, 2147583648, 0, 0), (2147483648, 2147483656, 1, 0), (2147483648, 2147485249, 2, 0)]
noncomputable def f_b318 : ev_H := (bn1089 : e2_Q8)
noncomputable def q_b318_0 : ev_H := (bn1091 : e2_Q8)
noncomputable def rs_b318 : e2_Rs := [((0, 0, 0), q_b318_0)]
noncomputable def s_b318 : e2_Sm := (192, as_b318, E_b318, f_b318, rs_b318)
noncomputable def S_b318 : List e2_Sm := []
noncomputable def I_b318 : List e2_In := [(173, 3, e2x_173), (174, 1, e2x_174), (180, 1, e2x_180)]
set_option maxRecDepth 1000000 in
theorem ck_b318 : e2_run (e2_cal S_b318 I_b318 4000 2) (e2_fin rs_b318) e2x_192 (fun _ => false) (fun _ _ _ _ _ => false) 4000 (e2_seek e2x_192 0) (e2_al 2 as_b318) [] E_b318 f_b318 = true := by decide +kernel
set_option maxRecDepth 1000000 in
theorem co_b318 : e2_okSB E_b318.length as_b318 f_b318 rs_b318 = true := by decide +kernel
theorem cs_b318 (hen : en_ok) (l : Launch) : e2_smOk l 3 s_b318 := e2_con0 (H := 0) (n := 2) (C := evd_192) (S := S_b318) (I := I_b318) (fuel := 4000) [] hen ei_192 e2_fz (e2_fa ein_173 (e2_fa ein_174 (e2_fa ein_180 e2_fz))) (by decide) co_b318 ex2_192 ck_b318
/-! b319 X10_readNever -/
def as_b319 : List ev_V := [(2, 83, 0)]
def E_b319 : e2_E := [(2147483648, 2147583648, 0, 0), (2147483648, 2147483656, 1, 0), (2147483648, 2147485249, 2, 0)]
noncomputable def f_b319 : ev_H := (bn1420 : e2_Q8)
def bn1579 : e2_Q8 := (bn1382, bn1090)
noncomputable def q_b319_0 : ev_H := (bn1579 : e2_Q8)
noncomputable def rs_b319 : e2_Rs := [((9, 0, 0), q_b319_0)]
noncomputable def s_b319 : e2_Sm := (197, as_b319, E_b319, f_b319, rs_b319)
noncomputable def S_b319 : List e2_Sm := [s_b263, s_b318]
noncomputable def I_b319 : List e2_In := [(174, 1, e2x_174)]
set_option maxRecDepth 1000000 in
theorem ck_b319 : e2_run (e2_cal S_b319 I_b319 4000 1) (e2_fin rs_b319) e2x_197 (fun _ => false) (fun _ _ _ _ _ => false) 4000 (e2_seek e2x_197 0) (e2_al 3 as_b319) [] E_b319 f_b319 = true := by decide +kernel
set_option maxRecDepth 1000000 in
theorem co_b319 : e2_okSB E_b319.length as_b319 f_b319 rs_b319 = true := by decide +kernel
theorem cs_b319 (hen : en_ok) (l : Launch) : e2_smOk l 5 s_b319 := e2_con0 (H := 3) (n := 1) (C := evd_197) (S := S_b319) (I := I_b319) (fuel := 4000) [] hen ei_197 (e2_fa ((cs_b263 hen l).mono (by decide)) (e2_fa (cs_b318 hen l) e2_fz)) (e2_fa ein_174 e2_fz) (by decide) co_b319 ex2_197 ck_b319
/-! b320 X10_known -/
def as_b320 : List ev_V := [(2, 83, 0), (0, 4294967295, 0)]
def E_b320 : e2_E := [(2147483648, 2147583648, 0, 0), (2147483648, 2147483656, 1, 0), (2147483648, 2147485249, 2, 0)]
noncomputable def f_b320 : ev_H := (bn1095 : e2_Q8)
noncomputable def q_b320_0 : ev_H := (bn1097 : e2_Q8)
noncomputable def rs_b320 : e2_Rs := [((0, 0, 0), q_b320_0)]
noncomputable def s_b320 : e2_Sm := (192, as_b320, E_b320, f_b320, rs_b320)
noncomputable def S_b320 : List e2_Sm := []
noncomputable def I_b320 : List e2_In := [(173, 3, e2x_173), (174, 1, e2x_174), (180, 1, e2x_180)]
set_option maxRecDepth 1000000 in
theorem ck_b320 : e2_run (e2_cal S_b320 I_b320 4000 2) (e2_fin rs_b320) e2x_192 (fun _ => false) (fun _ _ _ _ _ => false) 4000 (e2_seek e2x_192 0) (e2_al 2 as_b320) [] E_b320 f_b320 = true := by decide +kernel
set_option maxRecDepth 1000000 in
theorem co_b320 : e2_okSB E_b320.length as_b320 f_b320 rs_b320 = true := by decide +kernel
theorem cs_b320 (hen : en_ok) (l : Launch) : e2_smOk l 3 s_b320 := e2_con0 (H := 0) (n := 2) (C := evd_192) (S := S_b320) (I := I_b320) (fuel := 4000) [] hen ei_192 e2_fz (e2_fa ein_173 (e2_fa ein_174 (e2_fa ein_180 e2_fz))) (by decide) co_b320 ex2_192 ck_b320
/-! b321 X10_readNever -/
def as_b321 : List ev_V := [(2, 83, 0)]
def E_b321 : e2_E := [(2147483648, 2147583648, 0, 0), (2147483648, 2147483656, 1, 0), (2147483648, 2147485249, 2, 0)]
noncomputable def f_b321 : ev_H := (bn1434 : e2_Q8)
def bn1580 : e2_Q8 := (bn1382, bn1096)
noncomputable def q_b321_0 : ev_H := (bn1580 : e2_Q8)
noncomputable def rs_b321 : e2_Rs := [((9, 0, 0), q_b321_0)]
noncomputable def s_b321 : e2_Sm := (197, as_b321, E_b321, f_b321, rs_b321)
noncomputable def S_b321 : List e2_Sm := [s_b270, s_b320]
noncomputable def I_b321 : List e2_In := [(174, 1, e2x_174)]
set_option maxRecDepth 1000000 in
theorem ck_b321 : e2_run (e2_cal S_b321 I_b321 4000 1) (e2_fin rs_b321) e2x_197 (fun _ => false) (fun _ _ _ _ _ => false) 4000 (e2_seek e2x_197 0) (e2_al 3 as_b321) [] E_b321 f_b321 = true := by decide +kernel
set_option maxRecDepth 1000000 in
theorem co_b321 : e2_okSB E_b321.length as_b321 f_b321 rs_b321 = true := by decide +kernel
theorem cs_b321 (hen : en_ok) (l : Launch) : e2_smOk l 5 s_b321 := e2_con0 (H := 3) (n := 1) (C := evd_197) (S := S_b321) (I := I_b321) (fuel := 4000) [] hen ei_197 (e2_fa ((cs_b270 hen l).mono (by decide)) (e2_fa (cs_b320 hen l) e2_fz)) (e2_fa ein_174 e2_fz) (by decide) co_b321 ex2_197 ck_b321
/-! b322 X10_readNever -/
def as_b322 : List ev_V := [(2, 83, 0)]
def E_b322 : e2_E := [(2147483648, 2147583648, 0, 0), (2147483648, 2147483656, 1, 0), (2147483648, 2147485249, 2, 0)]
noncomputable def f_b322 : ev_H := (bn1448 : e2_Q8)
def bn1581 : e2_Q8 := (bn1382, bn1082)
noncomputable def q_b322_0 : ev_H := (bn1581 : e2_Q8)
noncomputable def rs_b322 : e2_Rs := [((9, 0, 0), q_b322_0)]
noncomputable def s_b322 : e2_Sm := (197, as_b322, E_b322, f_b322, rs_b322)
noncomputable def S_b322 : List e2_Sm := [s_b277, s_b288]
noncomputable def I_b322 : List e2_In := [(174, 1, e2x_174)]
set_option maxRecDepth 1000000 in
theorem ck_b322 : e2_run (e2_cal S_b322 I_b322 4000 1) (e2_fin rs_b322) e2x_197 (fun _ => false) (fun _ _ _ _ _ => false) 4000 (e2_seek e2x_197 0) (e2_al 3 as_b322) [] E_b322 f_b322 = true := by decide +kernel
set_option maxRecDepth 1000000 in
theorem co_b322 : e2_okSB E_b322.length as_b322 f_b322 rs_b322 = true := by decide +kernel
theorem cs_b322 (hen : en_ok) (l : Launch) : e2_smOk l 5 s_b322 := e2_con0 (H := 3) (n := 1) (C := evd_197) (S := S_b322) (I := I_b322) (fuel := 4000) [] hen ei_197 (e2_fa ((cs_b277 hen l).mono (by decide)) (e2_fa (cs_b288 hen l) e2_fz)) (e2_fa ein_174 e2_fz) (by decide) co_b322 ex2_197 ck_b322
/-! b323 X10_here -/
def as_b323 : List ev_V := [(2, 83, 0), (2, 106, 0), (0, 8, 0), (11, 2147483648, 2147483656)]
def E_b323 : e2_E := [(2147483648, 2147583648, 0, 0), (2147483648, 2147483656, 1, 0), (2147483648, 2147485249, 2, 0)]
noncomputable def f_b323 : ev_H := (bn1153 : e2_Q8)
noncomputable def q_b323_0 : ev_H := (bn1153 : e2_Q8)
noncomputable def rs_b323 : e2_Rs := [((0, 4294967295, 0), q_b323_0)]
noncomputable def s_b323 : e2_Sm := (188, as_b323, E_b323, f_b323, rs_b323)
noncomputable def S_b323 : List e2_Sm := []
noncomputable def I_b323 : List e2_In := []
set_option maxRecDepth 1000000 in
theorem co_b323 : e2_okSB E_b323.length as_b323 f_b323 rs_b323 = true := by decide +kernel
def al_b323_0 : List ev_V := [(2, 83, 0), (2, 106, 0), (0, 8, 0), (11, 2147483648, 2147483656), (1, 3, 4294967296)]
def E_b323_0 : e2_E := [(2147483648, 2147583648, 0, 0), (2147483648, 2147483656, 1, 0), (2147483648, 2147485249, 2, 0), (2147483648, 2147483656, 3, 0)]
noncomputable def h_b323_0 : ev_H := (bn1153 : e2_Q8)
noncomputable def cl_b323_e : List (Nat × e2_S) := [(3, e2_cutL (al_b323_0.set 4 (11, 2147483648, 2147483656)) 3 (E_b323_0.take 3) h_b323_0)]
set_option maxRecDepth 1000000 in
theorem ck_b323_e : e2_run (e2_cal S_b323 I_b323 4000 0) (e2_fin rs_b323) e2x_188 (e2_bpL cl_b323_e) (e2_cutA cl_b323_e) 4000 (e2_seek e2x_188 0) (e2_al 5 as_b323) [] E_b323 f_b323 = true := by decide +kernel
noncomputable def cl_b323_0 : List (Nat × e2_S) := [(3, e2_cutL (al_b323_0.set 4 (13, 11, 2147483656)) 3 (E_b323_0.take 3) h_b323_0)]
set_option maxRecDepth 1000000 in
theorem ck_b323_0 : e2_runM (e2_cal S_b323 I_b323 4000 0) (e2_fin rs_b323) e2x_188 (e2_bpL cl_b323_0) (e2_cutA cl_b323_0) 4000 (e2_seek e2x_188 3) al_b323_0 [] E_b323_0 h_b323_0 = true := by decide +kernel
set_option maxRecDepth 1000000 in
theorem ci_b323_0 : e2_idl 3 (al_b323_0.set 4 (9, 0, 0)) = true := by decide +kernel
set_option maxRecDepth 1000000 in
theorem cj_b323_0 : e2_idh 3 8 h_b323_0 = true := by decide +kernel
theorem cs_b323 (hen : en_ok) (l : Launch) : e2_smOk l 1 s_b323 := by
  refine e2_conG (H := 0) (n := 0) (C := evd_188) (S := S_b323) (I := I_b323) (fuel := 4000) hen ei_188 e2_fz e2_fz (by decide) co_b323 fun M d _ hC hcall p e R s m args below meth c Q D cA A ads r0 ha hl0 => ?_
  have L_0 : e2_gdM M p l e R s m args below meth c Q D cA A ads r0 3 al_b323_0 [] E_b323_0 h_b323_0 := by
    refine e2_indL (u := 3) (j := 4) (lo := 2147483648) (hi := 2147483656) (b := 3) (dd := 0) hl0 (by decide) rfl rfl (Or.inr ⟨rfl, rfl⟩) rfl ci_b323_0 cj_b323_0 ?_
    intro r_0 k_0 hk_0 hp_0 hs_0 hn_0
    have hl_0 : r_0.length ≤ 4 := hs_0.len rfl
    have ha_0 := ha.ext hp_0
    exact e2_fromM hen ha_0 hcall (e2_cutA_ok (e2_fa (fun al st E h hc => hn_0 al st E h hc) e2_fz)) (hC []) (X := e2x_188) ex2_188 3 ck_b323_0
  have EN_0 := e2_entL (u := 3) (j := 4) (lo := 2147483648) (hi := 2147483656) hl0 rfl rfl rfl ci_b323_0 cj_b323_0 L_0
  exact e2_from hen ha hcall (e2_cutA_ok (e2_fa (fun al st E h hc => EN_0 al st E h hc) e2_fz)) (hC []) (X := e2x_188) ex2_188 0 ck_b323_e
/-! b324 X10_glyphHere -/
def as_b324 : List ev_V := [(2, 83, 0)]
def E_b324 : e2_E := [(2147483648, 2147583648, 0, 0), (2147483648, 2147483656, 1, 0), (2147483648, 2147485249, 2, 0)]
def bn1582 : e2_Q8 := (bn1382, bn1152)
noncomputable def f_b324 : ev_H := (bn1582 : e2_Q8)
noncomputable def q_b324_0 : ev_H := (bn1582 : e2_Q8)
noncomputable def rs_b324 : e2_Rs := [((0, 4294967295, 0), q_b324_0)]
noncomputable def s_b324 : e2_Sm := (190, as_b324, E_b324, f_b324, rs_b324)
noncomputable def S_b324 : List e2_Sm := [s_b323]
noncomputable def I_b324 : List e2_In := []
set_option maxRecDepth 1000000 in
theorem ck_b324 : e2_run (e2_cal S_b324 I_b324 4000 0) (e2_fin rs_b324) e2x_190 (fun _ => false) (fun _ _ _ _ _ => false) 4000 (e2_seek e2x_190 0) (e2_al 1 as_b324) [] E_b324 f_b324 = true := by decide +kernel
set_option maxRecDepth 1000000 in
theorem co_b324 : e2_okSB E_b324.length as_b324 f_b324 rs_b324 = true := by decide +kernel
theorem cs_b324 (hen : en_ok) (l : Launch) : e2_smOk l 2 s_b324 := e2_con0 (H := 1) (n := 0) (C := evd_190) (S := S_b324) (I := I_b324) (fuel := 4000) [] hen ei_190 (e2_fa (cs_b323 hen l) e2_fz) e2_fz (by decide) co_b324 ex2_190 ck_b324
/-! b325 X10_here -/
def as_b325 : List ev_V := [(2, 83, 0), (2, 106, 0), (0, 8, 0), (11, 2147483648, 2147483656)]
def E_b325 : e2_E := [(2147483648, 2147583648, 0, 0), (2147483648, 2147483656, 1, 0), (2147483648, 2147485249, 2, 0)]
noncomputable def f_b325 : ev_H := (bn1199 : e2_Q8)
noncomputable def q_b325_0 : ev_H := (bn1199 : e2_Q8)
noncomputable def rs_b325 : e2_Rs := [((0, 4294967295, 0), q_b325_0)]
noncomputable def s_b325 : e2_Sm := (188, as_b325, E_b325, f_b325, rs_b325)
noncomputable def S_b325 : List e2_Sm := []
noncomputable def I_b325 : List e2_In := []
set_option maxRecDepth 1000000 in
theorem co_b325 : e2_okSB E_b325.length as_b325 f_b325 rs_b325 = true := by decide +kernel
def al_b325_0 : List ev_V := [(2, 83, 0), (2, 106, 0), (0, 8, 0), (11, 2147483648, 2147483656), (1, 3, 4294967296)]
def E_b325_0 : e2_E := [(2147483648, 2147583648, 0, 0), (2147483648, 2147483656, 1, 0), (2147483648, 2147485249, 2, 0), (2147483648, 2147483656, 3, 0)]
noncomputable def h_b325_0 : ev_H := (bn1199 : e2_Q8)
noncomputable def cl_b325_e : List (Nat × e2_S) := [(3, e2_cutL (al_b325_0.set 4 (11, 2147483648, 2147483656)) 3 (E_b325_0.take 3) h_b325_0)]
set_option maxRecDepth 1000000 in
theorem ck_b325_e : e2_run (e2_cal S_b325 I_b325 4000 0) (e2_fin rs_b325) e2x_188 (e2_bpL cl_b325_e) (e2_cutA cl_b325_e) 4000 (e2_seek e2x_188 0) (e2_al 5 as_b325) [] E_b325 f_b325 = true := by decide +kernel
noncomputable def cl_b325_0 : List (Nat × e2_S) := [(3, e2_cutL (al_b325_0.set 4 (13, 11, 2147483656)) 3 (E_b325_0.take 3) h_b325_0)]
set_option maxRecDepth 1000000 in
theorem ck_b325_0 : e2_runM (e2_cal S_b325 I_b325 4000 0) (e2_fin rs_b325) e2x_188 (e2_bpL cl_b325_0) (e2_cutA cl_b325_0) 4000 (e2_seek e2x_188 3) al_b325_0 [] E_b325_0 h_b325_0 = true := by decide +kernel
set_option maxRecDepth 1000000 in
theorem ci_b325_0 : e2_idl 3 (al_b325_0.set 4 (9, 0, 0)) = true := by decide +kernel
set_option maxRecDepth 1000000 in
theorem cj_b325_0 : e2_idh 3 8 h_b325_0 = true := by decide +kernel
theorem cs_b325 (hen : en_ok) (l : Launch) : e2_smOk l 1 s_b325 := by
  refine e2_conG (H := 0) (n := 0) (C := evd_188) (S := S_b325) (I := I_b325) (fuel := 4000) hen ei_188 e2_fz e2_fz (by decide) co_b325 fun M d _ hC hcall p e R s m args below meth c Q D cA A ads r0 ha hl0 => ?_
  have L_0 : e2_gdM M p l e R s m args below meth c Q D cA A ads r0 3 al_b325_0 [] E_b325_0 h_b325_0 := by
    refine e2_indL (u := 3) (j := 4) (lo := 2147483648) (hi := 2147483656) (b := 3) (dd := 0) hl0 (by decide) rfl rfl (Or.inr ⟨rfl, rfl⟩) rfl ci_b325_0 cj_b325_0 ?_
    intro r_0 k_0 hk_0 hp_0 hs_0 hn_0
    have hl_0 : r_0.length ≤ 4 := hs_0.len rfl
    have ha_0 := ha.ext hp_0
    exact e2_fromM hen ha_0 hcall (e2_cutA_ok (e2_fa (fun al st E h hc => hn_0 al st E h hc) e2_fz)) (hC []) (X := e2x_188) ex2_188 3 ck_b325_0
  have EN_0 := e2_entL (u := 3) (j := 4) (lo := 2147483648) (hi := 2147483656) hl0 rfl rfl rfl ci_b325_0 cj_b325_0 L_0
  exact e2_from hen ha hcall (e2_cutA_ok (e2_fa (fun al st E h hc => EN_0 al st E h hc) e2_fz)) (hC []) (X := e2x_188) ex2_188 0 ck_b325_e
/-! b326 X10_glyphHere -/
def as_b326 : List ev_V := [(2, 83, 0)]
def E_b326 : e2_E := [(2147483648, 2147583648, 0, 0), (2147483648, 2147483656, 1, 0), (2147483648, 2147485249, 2, 0)]
def bn1583 : e2_Q8 := (bn1382, bn1198)
noncomputable def f_b326 : ev_H := (bn1583 : e2_Q8)
noncomputable def q_b326_0 : ev_H := (bn1583 : e2_Q8)
noncomputable def rs_b326 : e2_Rs := [((0, 4294967295, 0), q_b326_0)]
noncomputable def s_b326 : e2_Sm := (190, as_b326, E_b326, f_b326, rs_b326)
noncomputable def S_b326 : List e2_Sm := [s_b325]
noncomputable def I_b326 : List e2_In := []
set_option maxRecDepth 1000000 in
theorem ck_b326 : e2_run (e2_cal S_b326 I_b326 4000 0) (e2_fin rs_b326) e2x_190 (fun _ => false) (fun _ _ _ _ _ => false) 4000 (e2_seek e2x_190 0) (e2_al 1 as_b326) [] E_b326 f_b326 = true := by decide +kernel
set_option maxRecDepth 1000000 in
theorem co_b326 : e2_okSB E_b326.length as_b326 f_b326 rs_b326 = true := by decide +kernel
theorem cs_b326 (hen : en_ok) (l : Launch) : e2_smOk l 2 s_b326 := e2_con0 (H := 1) (n := 0) (C := evd_190) (S := S_b326) (I := I_b326) (fuel := 4000) [] hen ei_190 (e2_fa (cs_b325 hen l) e2_fz) e2_fz (by decide) co_b326 ex2_190 ck_b326
/-! b327 X10_known -/
def as_b327 : List ev_V := [(2, 83, 0), (0, 4294967295, 0)]
def E_b327 : e2_E := [(2147483648, 2147583648, 0, 0), (2147483648, 2147483656, 1, 0), (2147483648, 2147485249, 2, 0)]
noncomputable def f_b327 : ev_H := (bn1151 : e2_Q8)
noncomputable def q_b327_0 : ev_H := (bn1103 : e2_Q8)
noncomputable def rs_b327 : e2_Rs := [((0, 0, 0), q_b327_0)]
noncomputable def s_b327 : e2_Sm := (192, as_b327, E_b327, f_b327, rs_b327)
noncomputable def S_b327 : List e2_Sm := []
noncomputable def I_b327 : List e2_In := [(173, 3, e2x_173), (174, 1, e2x_174), (180, 1, e2x_180)]
set_option maxRecDepth 1000000 in
theorem ck_b327 : e2_run (e2_cal S_b327 I_b327 4000 2) (e2_fin rs_b327) e2x_192 (fun _ => false) (fun _ _ _ _ _ => false) 4000 (e2_seek e2x_192 0) (e2_al 2 as_b327) [] E_b327 f_b327 = true := by decide +kernel
set_option maxRecDepth 1000000 in
theorem co_b327 : e2_okSB E_b327.length as_b327 f_b327 rs_b327 = true := by decide +kernel
theorem cs_b327 (hen : en_ok) (l : Launch) : e2_smOk l 3 s_b327 := e2_con0 (H := 0) (n := 2) (C := evd_192) (S := S_b327) (I := I_b327) (fuel := 4000) [] hen ei_192 e2_fz (e2_fa ein_173 (e2_fa ein_174 (e2_fa ein_180 e2_fz))) (by decide) co_b327 ex2_192 ck_b327
/-! b328 X10_known -/
def as_b328 : List ev_V := [(2, 83, 0), (11, 2147483647, 2147483655)]
def E_b328 : e2_E := [(2147483648, 2147583648, 0, 0), (2147483648, 2147483656, 1, 0), (2147483648, 2147485249, 2, 0)]
noncomputable def f_b328 : ev_H := (bn1047 : e2_Q8)
noncomputable def q_b328_0 : ev_H := (bn1093 : e2_Q8)
noncomputable def q_b328_1 : ev_H := (bn1027 : e2_Q8)
noncomputable def q_b328_2 : ev_H := (bn939 : e2_Q8)
noncomputable def q_b328_3 : ev_H := (bn1019 : e2_Q8)
noncomputable def q_b328_4 : ev_H := (bn1011 : e2_Q8)
noncomputable def q_b328_5 : ev_H := (bn1003 : e2_Q8)
noncomputable def rs_b328 : e2_Rs := [((11, 2147483648, 2147483655), q_b328_0), ((11, 2147483648, 2147483655), q_b328_1), ((11, 2147483648, 2147483655), q_b328_2), ((11, 2147483648, 2147483655), q_b328_3), ((11, 2147483648, 2147483655), q_b328_4), ((11, 2147483648, 2147483655), q_b328_5)]
noncomputable def s_b328 : e2_Sm := (192, as_b328, E_b328, f_b328, rs_b328)
noncomputable def S_b328 : List e2_Sm := [s_b176]
noncomputable def I_b328 : List e2_In := [(173, 3, e2x_173), (174, 1, e2x_174), (180, 1, e2x_180)]
set_option maxRecDepth 1000000 in
theorem ck_b328 : e2_run (e2_cal S_b328 I_b328 4000 2) (e2_fin rs_b328) e2x_192 (fun _ => false) (fun _ _ _ _ _ => false) 4000 (e2_seek e2x_192 0) (e2_al 2 as_b328) [] E_b328 f_b328 = true := by decide +kernel
set_option maxRecDepth 1000000 in
theorem co_b328 : e2_okSB E_b328.length as_b328 f_b328 rs_b328 = true := by decide +kernel
theorem cs_b328 (hen : en_ok) (l : Launch) : e2_smOk l 6 s_b328 := e2_con0 (H := 3) (n := 2) (C := evd_192) (S := S_b328) (I := I_b328) (fuel := 4000) [] hen ei_192 (e2_fa (cs_b176 hen l) e2_fz) (e2_fa ein_173 (e2_fa ein_174 (e2_fa ein_180 e2_fz))) (by decide) co_b328 ex2_192 ck_b328
/-! b329 X10_known -/
def as_b329 : List ev_V := [(2, 83, 0), (11, 2147483648, 2147483655)]
def E_b329 : e2_E := [(2147483648, 2147583648, 0, 0), (2147483648, 2147483656, 1, 0), (2147483648, 2147485249, 2, 0)]
noncomputable def f_b329 : ev_H := (bn1047 : e2_Q8)
noncomputable def q_b329_0 : ev_H := (bn1093 : e2_Q8)
noncomputable def q_b329_1 : ev_H := (bn1027 : e2_Q8)
noncomputable def q_b329_2 : ev_H := (bn939 : e2_Q8)
noncomputable def q_b329_3 : ev_H := (bn1019 : e2_Q8)
noncomputable def q_b329_4 : ev_H := (bn1011 : e2_Q8)
noncomputable def q_b329_5 : ev_H := (bn1003 : e2_Q8)
noncomputable def rs_b329 : e2_Rs := [((11, 2147483648, 2147483655), q_b329_0), ((11, 2147483648, 2147483655), q_b329_1), ((11, 2147483648, 2147483655), q_b329_2), ((11, 2147483648, 2147483655), q_b329_3), ((11, 2147483648, 2147483655), q_b329_4), ((11, 2147483648, 2147483655), q_b329_5)]
noncomputable def s_b329 : e2_Sm := (192, as_b329, E_b329, f_b329, rs_b329)
noncomputable def S_b329 : List e2_Sm := [s_b176]
noncomputable def I_b329 : List e2_In := [(173, 3, e2x_173), (174, 1, e2x_174), (180, 1, e2x_180)]
set_option maxRecDepth 1000000 in
theorem ck_b329 : e2_run (e2_cal S_b329 I_b329 4000 2) (e2_fin rs_b329) e2x_192 (fun _ => false) (fun _ _ _ _ _ => false) 4000 (e2_seek e2x_192 0) (e2_al 2 as_b329) [] E_b329 f_b329 = true := by decide +kernel
set_option maxRecDepth 1000000 in
theorem co_b329 : e2_okSB E_b329.length as_b329 f_b329 rs_b329 = true := by decide +kernel
theorem cs_b329 (hen : en_ok) (l : Launch) : e2_smOk l 6 s_b329 := e2_con0 (H := 3) (n := 2) (C := evd_192) (S := S_b329) (I := I_b329) (fuel := 4000) [] hen ei_192 (e2_fa (cs_b176 hen l) e2_fz) (e2_fa ein_173 (e2_fa ein_174 (e2_fa ein_180 e2_fz))) (by decide) co_b329 ex2_192 ck_b329
/-! b330 X10_known -/
def as_b330 : List ev_V := [(2, 83, 0), (11, 2147483648, 2147483655)]
def E_b330 : e2_E := [(2147483648, 2147583648, 0, 0), (2147483648, 2147483656, 1, 0), (2147483648, 2147485249, 2, 0)]
noncomputable def f_b330 : ev_H := (bn1103 : e2_Q8)
noncomputable def q_b330_0 : ev_H := (bn1103 : e2_Q8)
noncomputable def rs_b330 : e2_Rs := [((0, 0, 0), q_b330_0)]
noncomputable def s_b330 : e2_Sm := (192, as_b330, E_b330, f_b330, rs_b330)
noncomputable def S_b330 : List e2_Sm := []
noncomputable def I_b330 : List e2_In := [(174, 1, e2x_174)]
set_option maxRecDepth 1000000 in
theorem ck_b330 : e2_run (e2_cal S_b330 I_b330 4000 1) (e2_fin rs_b330) e2x_192 (fun _ => false) (fun _ _ _ _ _ => false) 4000 (e2_seek e2x_192 0) (e2_al 2 as_b330) [] E_b330 f_b330 = true := by decide +kernel
set_option maxRecDepth 1000000 in
theorem co_b330 : e2_okSB E_b330.length as_b330 f_b330 rs_b330 = true := by decide +kernel
theorem cs_b330 (hen : en_ok) (l : Launch) : e2_smOk l 2 s_b330 := e2_con0 (H := 0) (n := 1) (C := evd_192) (S := S_b330) (I := I_b330) (fuel := 4000) [] hen ei_192 e2_fz (e2_fa ein_174 e2_fz) (by decide) co_b330 ex2_192 ck_b330
/-! b331 X10_readNever -/
def as_b331 : List ev_V := [(2, 83, 0)]
def E_b331 : e2_E := [(2147483648, 2147583648, 0, 0), (2147483648, 2147483656, 1, 0), (2147483648, 2147485249, 2, 0)]
def bn1584 : e2_Q5 := (bn755, bn337)
def bn1585 : e2_Q6 := (bn1380, bn1584)
def bn1586 : e2_Q7 := (bn1585, bn1463)
def bn1587 : e2_Q6 := (bn777, bn356)
def bn1588 : e2_Q7 := (bn1587, bn1045)
def bn1589 : e2_Q8 := (bn1586, bn1588)
noncomputable def f_b331 : ev_H := (bn1589 : e2_Q8)
def bn1590 : e2_Q7 := (bn1587, bn1159)
def bn1591 : e2_Q8 := (bn1586, bn1590)
noncomputable def q_b331_0 : ev_H := (bn1591 : e2_Q8)
def bn1592 : e2_Q7 := (bn1587, bn461)
def bn1593 : e2_Q8 := (bn1586, bn1592)
noncomputable def q_b331_1 : ev_H := (bn1593 : e2_Q8)
def bn1594 : e2_Q7 := (bn1587, bn1001)
def bn1595 : e2_Q8 := (bn1586, bn1594)
noncomputable def q_b331_2 : ev_H := (bn1595 : e2_Q8)
def bn1596 : e2_Q7 := (bn1587, bn1009)
def bn1597 : e2_Q8 := (bn1586, bn1596)
noncomputable def q_b331_3 : ev_H := (bn1597 : e2_Q8)
def bn1598 : e2_Q7 := (bn1587, bn1017)
def bn1599 : e2_Q8 := (bn1586, bn1598)
noncomputable def q_b331_4 : ev_H := (bn1599 : e2_Q8)
def bn1600 : e2_Q7 := (bn1587, bn937)
def bn1601 : e2_Q8 := (bn1586, bn1600)
noncomputable def q_b331_5 : ev_H := (bn1601 : e2_Q8)
def bn1602 : e2_Q7 := (bn1587, bn1025)
def bn1603 : e2_Q8 := (bn1586, bn1602)
noncomputable def q_b331_6 : ev_H := (bn1603 : e2_Q8)
def bn1604 : e2_Q7 := (bn1587, bn1177)
def bn1605 : e2_Q8 := (bn1586, bn1604)
noncomputable def q_b331_7 : ev_H := (bn1605 : e2_Q8)
def bn1606 : e2_Q7 := (bn1587, bn375)
def bn1607 : e2_Q8 := (bn1586, bn1606)
noncomputable def q_b331_8 : ev_H := (bn1607 : e2_Q8)
def bn1608 : e2_Q7 := (bn1587, bn367)
def bn1609 : e2_Q8 := (bn1586, bn1608)
noncomputable def q_b331_9 : ev_H := (bn1609 : e2_Q8)
noncomputable def rs_b331 : e2_Rs := [((9, 0, 0), q_b331_0), ((9, 0, 0), q_b331_1), ((9, 0, 0), q_b331_2), ((9, 0, 0), q_b331_3), ((9, 0, 0), q_b331_4), ((9, 0, 0), q_b331_5), ((9, 0, 0), q_b331_6), ((9, 0, 0), q_b331_7), ((9, 0, 0), q_b331_8), ((9, 0, 0), q_b331_9)]
noncomputable def s_b331 : e2_Sm := (197, as_b331, E_b331, f_b331, rs_b331)
noncomputable def S_b331 : List e2_Sm := [s_b256, s_b277, s_b284, s_b285, s_b286, s_b287, s_b288, s_b324, s_b326, s_b327, s_b328, s_b329, s_b330]
noncomputable def I_b331 : List e2_In := [(173, 3, e2x_173), (174, 1, e2x_174)]
set_option maxRecDepth 1000000 in
theorem ck_b331 : e2_run (e2_cal S_b331 I_b331 4000 1) (e2_fin rs_b331) e2x_197 (fun _ => false) (fun _ _ _ _ _ => false) 4000 (e2_seek e2x_197 0) (e2_al 3 as_b331) [] E_b331 f_b331 = true := by decide +kernel
set_option maxRecDepth 1000000 in
theorem co_b331 : e2_okSB E_b331.length as_b331 f_b331 rs_b331 = true := by decide +kernel
theorem cs_b331 (hen : en_ok) (l : Launch) : e2_smOk l 8 s_b331 := e2_con0 (H := 6) (n := 1) (C := evd_197) (S := S_b331) (I := I_b331) (fuel := 4000) [] hen ei_197 (e2_fa ((cs_b256 hen l).mono (by decide)) (e2_fa ((cs_b277 hen l).mono (by decide)) (e2_fa ((cs_b284 hen l).mono (by decide)) (e2_fa ((cs_b285 hen l).mono (by decide)) (e2_fa ((cs_b286 hen l).mono (by decide)) (e2_fa ((cs_b287 hen l).mono (by decide)) (e2_fa ((cs_b288 hen l).mono (by decide)) (e2_fa ((cs_b324 hen l).mono (by decide)) (e2_fa ((cs_b326 hen l).mono (by decide)) (e2_fa ((cs_b327 hen l).mono (by decide)) (e2_fa (cs_b328 hen l) (e2_fa (cs_b329 hen l) (e2_fa ((cs_b330 hen l).mono (by decide)) e2_fz))))))))))))) (e2_fa ein_173 (e2_fa ein_174 e2_fz)) (by decide) co_b331 ex2_197 ck_b331
/-! b332 X10_readRule -/
def as_b332 : List ev_V := [(2, 83, 0), (11, 2147483648, 2147483649)]
def E_b332 : e2_E := [(2147483648, 2147583648, 0, 0), (2147483648, 2147483656, 1, 0), (2147483648, 2147485249, 2, 0)]
def bn1610 : e2_Q4 := (bn747, bn28)
def bn1611 : e2_Q5 := (bn14, bn1610)
def bn1612 : e2_Q6 := (bn1611, bn61)
def bn1613 : e2_Q5 := (bn707, bn123)
def bn1614 : e2_Q6 := (bn93, bn1613)
def bn1615 : e2_Q7 := (bn1612, bn1614)
def bn1616 : e2_Q4 := (bn712, bn171)
def bn1617 : e2_Q5 := (bn1616, bn186)
def bn1618 : e2_Q6 := (bn157, bn1617)
def bn1619 : e2_Q7 := (bn1618, bn299)
def bn1620 : e2_Q8 := (bn1615, bn1619)
noncomputable def f_b332 : ev_H := (bn1620 : e2_Q8)
def bn1621 : e2_Q7 := (bn1618, bn307)
def bn1622 : e2_Q8 := (bn1615, bn1621)
noncomputable def q_b332_0 : ev_H := (bn1622 : e2_Q8)
noncomputable def rs_b332 : e2_Rs := [((9, 0, 0), q_b332_0)]
noncomputable def s_b332 : e2_Sm := (199, as_b332, E_b332, f_b332, rs_b332)
noncomputable def S_b332 : List e2_Sm := [s_b2]
noncomputable def I_b332 : List e2_In := []
set_option maxRecDepth 1000000 in
theorem ck_b332 : e2_run (e2_cal S_b332 I_b332 4000 0) (e2_fin rs_b332) e2x_199 (fun _ => false) (fun _ _ _ _ _ => false) 4000 (e2_seek e2x_199 0) (e2_al 2 as_b332) [] E_b332 f_b332 = true := by decide +kernel
set_option maxRecDepth 1000000 in
theorem co_b332 : e2_okSB E_b332.length as_b332 f_b332 rs_b332 = true := by decide +kernel
theorem cs_b332 (hen : en_ok) (l : Launch) (hh : e2_hand_b l) : e2_smOk l 61 s_b332 := e2_con0 (H := 60) (n := 0) (C := evd_199) (S := S_b332) (I := I_b332) (fuel := 4000) [] hen ei_199 (e2_fa (hh _ hm_b2) e2_fz) e2_fz (by decide) co_b332 ex2_199 ck_b332
/-! b333 X10_readRule -/
def as_b333 : List ev_V := [(2, 83, 0), (11, 2147483648, 2147483649)]
def E_b333 : e2_E := [(2147483648, 2147583648, 0, 0), (2147483648, 2147483656, 1, 0), (2147483648, 2147485249, 2, 0)]
def bn1623 : e2_Q7 := (bn1618, bn323)
def bn1624 : e2_Q8 := (bn1615, bn1623)
noncomputable def f_b333 : ev_H := (bn1624 : e2_Q8)
noncomputable def q_b333_0 : ev_H := (bn1624 : e2_Q8)
def bn1625 : e2_Q7 := (bn1618, bn283)
def bn1626 : e2_Q8 := (bn1615, bn1625)
noncomputable def q_b333_1 : ev_H := (bn1626 : e2_Q8)
def bn1627 : e2_Q7 := (bn1618, bn251)
def bn1628 : e2_Q8 := (bn1615, bn1627)
noncomputable def q_b333_2 : ev_H := (bn1628 : e2_Q8)
def bn1629 : e2_Q7 := (bn1618, bn315)
def bn1630 : e2_Q8 := (bn1615, bn1629)
noncomputable def q_b333_3 : ev_H := (bn1630 : e2_Q8)
def bn1631 : e2_Q7 := (bn1618, bn267)
def bn1632 : e2_Q8 := (bn1615, bn1631)
noncomputable def q_b333_4 : ev_H := (bn1632 : e2_Q8)
def bn1633 : e2_Q7 := (bn1618, bn259)
def bn1634 : e2_Q8 := (bn1615, bn1633)
noncomputable def q_b333_5 : ev_H := (bn1634 : e2_Q8)
noncomputable def rs_b333 : e2_Rs := [((9, 0, 0), q_b333_0), ((9, 0, 0), q_b333_1), ((9, 0, 0), q_b333_2), ((9, 0, 0), q_b333_3), ((9, 0, 0), q_b333_4), ((9, 0, 0), q_b333_5)]
noncomputable def s_b333 : e2_Sm := (199, as_b333, E_b333, f_b333, rs_b333)
noncomputable def S_b333 : List e2_Sm := [s_b5]
noncomputable def I_b333 : List e2_In := []
set_option maxRecDepth 1000000 in
theorem ck_b333 : e2_run (e2_cal S_b333 I_b333 4000 0) (e2_fin rs_b333) e2x_199 (fun _ => false) (fun _ _ _ _ _ => false) 4000 (e2_seek e2x_199 0) (e2_al 2 as_b333) [] E_b333 f_b333 = true := by decide +kernel
set_option maxRecDepth 1000000 in
theorem co_b333 : e2_okSB E_b333.length as_b333 f_b333 rs_b333 = true := by decide +kernel
theorem cs_b333 (hen : en_ok) (l : Launch) (hh : e2_hand_b l) : e2_smOk l 61 s_b333 := e2_con0 (H := 60) (n := 0) (C := evd_199) (S := S_b333) (I := I_b333) (fuel := 4000) [] hen ei_199 (e2_fa (hh _ hm_b5) e2_fz) e2_fz (by decide) co_b333 ex2_199 ck_b333
/-! b334 X10_readRule -/
def as_b334 : List ev_V := [(2, 83, 0), (11, 2147483648, 2147483649)]
def E_b334 : e2_E := [(2147483648, 2147583648, 0, 0), (2147483648, 2147483656, 1, 0), (2147483648, 2147485249, 2, 0)]
noncomputable def f_b334 : ev_H := (bn1630 : e2_Q8)
noncomputable def q_b334_0 : ev_H := (bn1624 : e2_Q8)
noncomputable def q_b334_1 : ev_H := (bn1626 : e2_Q8)
noncomputable def q_b334_2 : ev_H := (bn1628 : e2_Q8)
noncomputable def q_b334_3 : ev_H := (bn1630 : e2_Q8)
noncomputable def q_b334_4 : ev_H := (bn1632 : e2_Q8)
noncomputable def q_b334_5 : ev_H := (bn1634 : e2_Q8)
noncomputable def rs_b334 : e2_Rs := [((9, 0, 0), q_b334_0), ((9, 0, 0), q_b334_1), ((9, 0, 0), q_b334_2), ((9, 0, 0), q_b334_3), ((9, 0, 0), q_b334_4), ((9, 0, 0), q_b334_5)]
noncomputable def s_b334 : e2_Sm := (199, as_b334, E_b334, f_b334, rs_b334)
noncomputable def S_b334 : List e2_Sm := [s_b3]
noncomputable def I_b334 : List e2_In := []
set_option maxRecDepth 1000000 in
theorem ck_b334 : e2_run (e2_cal S_b334 I_b334 4000 0) (e2_fin rs_b334) e2x_199 (fun _ => false) (fun _ _ _ _ _ => false) 4000 (e2_seek e2x_199 0) (e2_al 2 as_b334) [] E_b334 f_b334 = true := by decide +kernel
set_option maxRecDepth 1000000 in
theorem co_b334 : e2_okSB E_b334.length as_b334 f_b334 rs_b334 = true := by decide +kernel
theorem cs_b334 (hen : en_ok) (l : Launch) (hh : e2_hand_b l) : e2_smOk l 61 s_b334 := e2_con0 (H := 60) (n := 0) (C := evd_199) (S := S_b334) (I := I_b334) (fuel := 4000) [] hen ei_199 (e2_fa (hh _ hm_b3) e2_fz) e2_fz (by decide) co_b334 ex2_199 ck_b334
/-! b335 X10_readRule -/
def as_b335 : List ev_V := [(2, 83, 0), (11, 2147483648, 2147483649)]
def E_b335 : e2_E := [(2147483648, 2147583648, 0, 0), (2147483648, 2147483656, 1, 0), (2147483648, 2147485249, 2, 0)]
noncomputable def f_b335 : ev_H := (bn1628 : e2_Q8)
def bn1635 : e2_Q7 := (bn1618, bn291)
def bn1636 : e2_Q8 := (bn1615, bn1635)
noncomputable def q_b335_0 : ev_H := (bn1636 : e2_Q8)
noncomputable def q_b335_1 : ev_H := (bn1626 : e2_Q8)
noncomputable def q_b335_2 : ev_H := (bn1628 : e2_Q8)
def bn1637 : e2_Q7 := (bn1618, bn275)
def bn1638 : e2_Q8 := (bn1615, bn1637)
noncomputable def q_b335_3 : ev_H := (bn1638 : e2_Q8)
noncomputable def q_b335_4 : ev_H := (bn1632 : e2_Q8)
noncomputable def q_b335_5 : ev_H := (bn1634 : e2_Q8)
noncomputable def rs_b335 : e2_Rs := [((9, 0, 0), q_b335_0), ((9, 0, 0), q_b335_1), ((9, 0, 0), q_b335_2), ((9, 0, 0), q_b335_3), ((9, 0, 0), q_b335_4), ((9, 0, 0), q_b335_5)]
noncomputable def s_b335 : e2_Sm := (199, as_b335, E_b335, f_b335, rs_b335)
noncomputable def S_b335 : List e2_Sm := [s_b1]
noncomputable def I_b335 : List e2_In := []
set_option maxRecDepth 1000000 in
theorem ck_b335 : e2_run (e2_cal S_b335 I_b335 4000 0) (e2_fin rs_b335) e2x_199 (fun _ => false) (fun _ _ _ _ _ => false) 4000 (e2_seek e2x_199 0) (e2_al 2 as_b335) [] E_b335 f_b335 = true := by decide +kernel
set_option maxRecDepth 1000000 in
theorem co_b335 : e2_okSB E_b335.length as_b335 f_b335 rs_b335 = true := by decide +kernel
theorem cs_b335 (hen : en_ok) (l : Launch) (hh : e2_hand_b l) : e2_smOk l 61 s_b335 := e2_con0 (H := 60) (n := 0) (C := evd_199) (S := S_b335) (I := I_b335) (fuel := 4000) [] hen ei_199 (e2_fa (hh _ hm_b1) e2_fz) e2_fz (by decide) co_b335 ex2_199 ck_b335
/-! b336 X10_readRule -/
def as_b336 : List ev_V := [(2, 83, 0), (11, 2147483648, 2147483649)]
def E_b336 : e2_E := [(2147483648, 2147583648, 0, 0), (2147483648, 2147483656, 1, 0), (2147483648, 2147485249, 2, 0)]
noncomputable def f_b336 : ev_H := (bn1626 : e2_Q8)
noncomputable def q_b336_0 : ev_H := (bn1636 : e2_Q8)
noncomputable def q_b336_1 : ev_H := (bn1626 : e2_Q8)
noncomputable def q_b336_2 : ev_H := (bn1628 : e2_Q8)
noncomputable def q_b336_3 : ev_H := (bn1638 : e2_Q8)
noncomputable def q_b336_4 : ev_H := (bn1632 : e2_Q8)
noncomputable def q_b336_5 : ev_H := (bn1634 : e2_Q8)
noncomputable def rs_b336 : e2_Rs := [((9, 0, 0), q_b336_0), ((9, 0, 0), q_b336_1), ((9, 0, 0), q_b336_2), ((9, 0, 0), q_b336_3), ((9, 0, 0), q_b336_4), ((9, 0, 0), q_b336_5)]
noncomputable def s_b336 : e2_Sm := (199, as_b336, E_b336, f_b336, rs_b336)
noncomputable def S_b336 : List e2_Sm := [s_b4]
noncomputable def I_b336 : List e2_In := []
set_option maxRecDepth 1000000 in
theorem ck_b336 : e2_run (e2_cal S_b336 I_b336 4000 0) (e2_fin rs_b336) e2x_199 (fun _ => false) (fun _ _ _ _ _ => false) 4000 (e2_seek e2x_199 0) (e2_al 2 as_b336) [] E_b336 f_b336 = true := by decide +kernel
set_option maxRecDepth 1000000 in
theorem co_b336 : e2_okSB E_b336.length as_b336 f_b336 rs_b336 = true := by decide +kernel
theorem cs_b336 (hen : en_ok) (l : Launch) (hh : e2_hand_b l) : e2_smOk l 61 s_b336 := e2_con0 (H := 60) (n := 0) (C := evd_199) (S := S_b336) (I := I_b336) (fuel := 4000) [] hen ei_199 (e2_fa (hh _ hm_b4) e2_fz) e2_fz (by decide) co_b336 ex2_199 ck_b336
/-! b337 X10_thingHere -/
def as_b337 : List ev_V := [(2, 83, 0)]
def E_b337 : e2_E := [(2147483648, 2147583648, 0, 0), (2147483648, 2147483656, 1, 0), (2147483648, 2147485249, 2, 0)]
def bn1639 : e2_Q5 := (bn831, bn249)
def bn1640 : e2_Q6 := (bn446, bn1639)
def bn1641 : e2_Q7 := (bn736, bn1640)
def bn1642 : e2_Q8 := (bn733, bn1641)
noncomputable def f_b337 : ev_H := (bn1642 : e2_Q8)
noncomputable def q_b337_0 : ev_H := (bn1642 : e2_Q8)
noncomputable def rs_b337 : e2_Rs := [((0, 4294967295, 0), q_b337_0)]
noncomputable def s_b337 : e2_Sm := (189, as_b337, E_b337, f_b337, rs_b337)
noncomputable def S_b337 : List e2_Sm := [s_b296]
noncomputable def I_b337 : List e2_In := []
set_option maxRecDepth 1000000 in
theorem ck_b337 : e2_run (e2_cal S_b337 I_b337 4000 0) (e2_fin rs_b337) e2x_189 (fun _ => false) (fun _ _ _ _ _ => false) 4000 (e2_seek e2x_189 0) (e2_al 1 as_b337) [] E_b337 f_b337 = true := by decide +kernel
set_option maxRecDepth 1000000 in
theorem co_b337 : e2_okSB E_b337.length as_b337 f_b337 rs_b337 = true := by decide +kernel
theorem cs_b337 (hen : en_ok) (l : Launch) : e2_smOk l 2 s_b337 := e2_con0 (H := 1) (n := 0) (C := evd_189) (S := S_b337) (I := I_b337) (fuel := 4000) [] hen ei_189 (e2_fa (cs_b296 hen l) e2_fz) e2_fz (by decide) co_b337 ex2_189 ck_b337
/-! b338 X10_readThing -/
def as_b338 : List ev_V := [(2, 83, 0)]
def E_b338 : e2_E := [(2147483648, 2147583648, 0, 0), (2147483648, 2147483656, 1, 0), (2147483648, 2147485249, 2, 0)]
def bn1643 : e2_Q6 := (bn446, bn836)
def bn1644 : e2_Q7 := (bn1490, bn1643)
def bn1645 : e2_Q8 := (bn733, bn1644)
noncomputable def f_b338 : ev_H := (bn1645 : e2_Q8)
def bc240 : ev_C := (50, [(11, 2147483648, 2147483652), (11, 2147483649, 2147483652)])
def bn1646 : e2_Q1 := (bc240, bc3)
def bn1647 : e2_Q2 := (bn227, bn1646)
def bn1648 : e2_Q3 := (bn1647, bn232)
def bn1649 : e2_Q4 := (bn226, bn1648)
def bn1650 : e2_Q5 := (bn1649, bn835)
def bn1651 : e2_Q6 := (bn374, bn1650)
def bn1652 : e2_Q7 := (bn1490, bn1651)
def bn1653 : e2_Q8 := (bn733, bn1652)
noncomputable def q_b338_0 : ev_H := (bn1653 : e2_Q8)
noncomputable def rs_b338 : e2_Rs := [((9, 0, 0), q_b338_0)]
noncomputable def s_b338 : e2_Sm := (193, as_b338, E_b338, f_b338, rs_b338)
noncomputable def S_b338 : List e2_Sm := [s_b223, s_b254, s_b337]
noncomputable def I_b338 : List e2_In := []
set_option maxRecDepth 1000000 in
theorem ck_b338 : e2_run (e2_cal S_b338 I_b338 4000 0) (e2_fin rs_b338) e2x_193 (fun _ => false) (fun _ _ _ _ _ => false) 4000 (e2_seek e2x_193 0) (e2_al 2 as_b338) [] E_b338 f_b338 = true := by decide +kernel
set_option maxRecDepth 1000000 in
theorem co_b338 : e2_okSB E_b338.length as_b338 f_b338 rs_b338 = true := by decide +kernel
theorem cs_b338 (hen : en_ok) (l : Launch) : e2_smOk l 5 s_b338 := e2_con0 (H := 4) (n := 0) (C := evd_193) (S := S_b338) (I := I_b338) (fuel := 4000) [] hen ei_193 (e2_fa (cs_b223 hen l) (e2_fa ((cs_b254 hen l).mono (by decide)) (e2_fa ((cs_b337 hen l).mono (by decide)) e2_fz))) e2_fz (by decide) co_b338 ex2_193 ck_b338
/-! b339 X10_here -/
def as_b339 : List ev_V := [(2, 83, 0), (2, 105, 0), (0, 4, 0), (11, 2147483648, 2147483651)]
def E_b339 : e2_E := [(2147483648, 2147583648, 0, 0), (2147483648, 2147483656, 1, 0), (2147483648, 2147485249, 2, 0)]
noncomputable def f_b339 : ev_H := (bn1089 : e2_Q8)
noncomputable def q_b339_0 : ev_H := (bn1089 : e2_Q8)
noncomputable def rs_b339 : e2_Rs := [((0, 4294967295, 0), q_b339_0)]
noncomputable def s_b339 : e2_Sm := (188, as_b339, E_b339, f_b339, rs_b339)
noncomputable def S_b339 : List e2_Sm := []
noncomputable def I_b339 : List e2_In := []
set_option maxRecDepth 1000000 in
theorem co_b339 : e2_okSB E_b339.length as_b339 f_b339 rs_b339 = true := by decide +kernel
def al_b339_0 : List ev_V := [(2, 83, 0), (2, 105, 0), (0, 4, 0), (11, 2147483648, 2147483651), (1, 3, 4294967296)]
def E_b339_0 : e2_E := [(2147483648, 2147583648, 0, 0), (2147483648, 2147483656, 1, 0), (2147483648, 2147485249, 2, 0), (2147483648, 2147483651, 3, 0)]
noncomputable def h_b339_0 : ev_H := (bn1089 : e2_Q8)
noncomputable def cl_b339_e : List (Nat × e2_S) := [(3, e2_cutL (al_b339_0.set 4 (11, 2147483648, 2147483651)) 3 (E_b339_0.take 3) h_b339_0)]
set_option maxRecDepth 1000000 in
theorem ck_b339_e : e2_run (e2_cal S_b339 I_b339 4000 0) (e2_fin rs_b339) e2x_188 (e2_bpL cl_b339_e) (e2_cutA cl_b339_e) 4000 (e2_seek e2x_188 0) (e2_al 5 as_b339) [] E_b339 f_b339 = true := by decide +kernel
noncomputable def cl_b339_0 : List (Nat × e2_S) := [(3, e2_cutL (al_b339_0.set 4 (13, 11, 2147483651)) 3 (E_b339_0.take 3) h_b339_0)]
set_option maxRecDepth 1000000 in
theorem ck_b339_0 : e2_runM (e2_cal S_b339 I_b339 4000 0) (e2_fin rs_b339) e2x_188 (e2_bpL cl_b339_0) (e2_cutA cl_b339_0) 4000 (e2_seek e2x_188 3) al_b339_0 [] E_b339_0 h_b339_0 = true := by decide +kernel
set_option maxRecDepth 1000000 in
theorem ci_b339_0 : e2_idl 3 (al_b339_0.set 4 (9, 0, 0)) = true := by decide +kernel
set_option maxRecDepth 1000000 in
theorem cj_b339_0 : e2_idh 3 8 h_b339_0 = true := by decide +kernel
theorem cs_b339 (hen : en_ok) (l : Launch) : e2_smOk l 1 s_b339 := by
  refine e2_conG (H := 0) (n := 0) (C := evd_188) (S := S_b339) (I := I_b339) (fuel := 4000) hen ei_188 e2_fz e2_fz (by decide) co_b339 fun M d _ hC hcall p e R s m args below meth c Q D cA A ads r0 ha hl0 => ?_
  have L_0 : e2_gdM M p l e R s m args below meth c Q D cA A ads r0 3 al_b339_0 [] E_b339_0 h_b339_0 := by
    refine e2_indL (u := 3) (j := 4) (lo := 2147483648) (hi := 2147483651) (b := 3) (dd := 0) hl0 (by decide) rfl rfl (Or.inr ⟨rfl, rfl⟩) rfl ci_b339_0 cj_b339_0 ?_
    intro r_0 k_0 hk_0 hp_0 hs_0 hn_0
    have hl_0 : r_0.length ≤ 4 := hs_0.len rfl
    have ha_0 := ha.ext hp_0
    exact e2_fromM hen ha_0 hcall (e2_cutA_ok (e2_fa (fun al st E h hc => hn_0 al st E h hc) e2_fz)) (hC []) (X := e2x_188) ex2_188 3 ck_b339_0
  have EN_0 := e2_entL (u := 3) (j := 4) (lo := 2147483648) (hi := 2147483651) hl0 rfl rfl rfl ci_b339_0 cj_b339_0 L_0
  exact e2_from hen ha hcall (e2_cutA_ok (e2_fa (fun al st E h hc => EN_0 al st E h hc) e2_fz)) (hC []) (X := e2x_188) ex2_188 0 ck_b339_e
/-! b340 X10_thingHere -/
def as_b340 : List ev_V := [(2, 83, 0)]
def E_b340 : e2_E := [(2147483648, 2147583648, 0, 0), (2147483648, 2147483656, 1, 0), (2147483648, 2147485249, 2, 0)]
def bn1654 : e2_Q6 := (bn1086, bn1639)
def bn1655 : e2_Q7 := (bn736, bn1654)
def bn1656 : e2_Q8 := (bn733, bn1655)
noncomputable def f_b340 : ev_H := (bn1656 : e2_Q8)
noncomputable def q_b340_0 : ev_H := (bn1656 : e2_Q8)
noncomputable def rs_b340 : e2_Rs := [((0, 4294967295, 0), q_b340_0)]
noncomputable def s_b340 : e2_Sm := (189, as_b340, E_b340, f_b340, rs_b340)
noncomputable def S_b340 : List e2_Sm := [s_b339]
noncomputable def I_b340 : List e2_In := []
set_option maxRecDepth 1000000 in
theorem ck_b340 : e2_run (e2_cal S_b340 I_b340 4000 0) (e2_fin rs_b340) e2x_189 (fun _ => false) (fun _ _ _ _ _ => false) 4000 (e2_seek e2x_189 0) (e2_al 1 as_b340) [] E_b340 f_b340 = true := by decide +kernel
set_option maxRecDepth 1000000 in
theorem co_b340 : e2_okSB E_b340.length as_b340 f_b340 rs_b340 = true := by decide +kernel
theorem cs_b340 (hen : en_ok) (l : Launch) : e2_smOk l 2 s_b340 := e2_con0 (H := 1) (n := 0) (C := evd_189) (S := S_b340) (I := I_b340) (fuel := 4000) [] hen ei_189 (e2_fa (cs_b339 hen l) e2_fz) e2_fz (by decide) co_b340 ex2_189 ck_b340
/-! b341 X10_readThing -/
def as_b341 : List ev_V := [(2, 83, 0)]
def E_b341 : e2_E := [(2147483648, 2147583648, 0, 0), (2147483648, 2147483656, 1, 0), (2147483648, 2147485249, 2, 0)]
def bn1657 : e2_Q6 := (bn1086, bn836)
def bn1658 : e2_Q7 := (bn1490, bn1657)
def bn1659 : e2_Q8 := (bn733, bn1658)
noncomputable def f_b341 : ev_H := (bn1659 : e2_Q8)
def bn1660 : e2_Q6 := (bn468, bn1650)
def bn1661 : e2_Q7 := (bn1490, bn1660)
def bn1662 : e2_Q8 := (bn733, bn1661)
noncomputable def q_b341_0 : ev_H := (bn1662 : e2_Q8)
noncomputable def rs_b341 : e2_Rs := [((9, 0, 0), q_b341_0)]
noncomputable def s_b341 : e2_Sm := (193, as_b341, E_b341, f_b341, rs_b341)
noncomputable def S_b341 : List e2_Sm := [s_b231, s_b261, s_b340]
noncomputable def I_b341 : List e2_In := []
set_option maxRecDepth 1000000 in
theorem ck_b341 : e2_run (e2_cal S_b341 I_b341 4000 0) (e2_fin rs_b341) e2x_193 (fun _ => false) (fun _ _ _ _ _ => false) 4000 (e2_seek e2x_193 0) (e2_al 2 as_b341) [] E_b341 f_b341 = true := by decide +kernel
set_option maxRecDepth 1000000 in
theorem co_b341 : e2_okSB E_b341.length as_b341 f_b341 rs_b341 = true := by decide +kernel
theorem cs_b341 (hen : en_ok) (l : Launch) : e2_smOk l 5 s_b341 := e2_con0 (H := 4) (n := 0) (C := evd_193) (S := S_b341) (I := I_b341) (fuel := 4000) [] hen ei_193 (e2_fa (cs_b231 hen l) (e2_fa ((cs_b261 hen l).mono (by decide)) (e2_fa ((cs_b340 hen l).mono (by decide)) e2_fz))) e2_fz (by decide) co_b341 ex2_193 ck_b341
/-! b342 X10_here -/
def as_b342 : List ev_V := [(2, 83, 0), (2, 105, 0), (0, 4, 0), (11, 2147483648, 2147483651)]
def E_b342 : e2_E := [(2147483648, 2147583648, 0, 0), (2147483648, 2147483656, 1, 0), (2147483648, 2147485249, 2, 0)]
noncomputable def f_b342 : ev_H := (bn1095 : e2_Q8)
noncomputable def q_b342_0 : ev_H := (bn1095 : e2_Q8)
noncomputable def rs_b342 : e2_Rs := [((0, 4294967295, 0), q_b342_0)]
noncomputable def s_b342 : e2_Sm := (188, as_b342, E_b342, f_b342, rs_b342)
noncomputable def S_b342 : List e2_Sm := []
noncomputable def I_b342 : List e2_In := []
set_option maxRecDepth 1000000 in
theorem co_b342 : e2_okSB E_b342.length as_b342 f_b342 rs_b342 = true := by decide +kernel
def al_b342_0 : List ev_V := [(2, 83, 0), (2, 105, 0), (0, 4, 0), (11, 2147483648, 2147483651), (1, 3, 4294967296)]
def E_b342_0 : e2_E := [(2147483648, 2147583648, 0, 0), (2147483648, 2147483656, 1, 0), (2147483648, 2147485249, 2, 0), (2147483648, 2147483651, 3, 0)]
noncomputable def h_b342_0 : ev_H := (bn1095 : e2_Q8)
noncomputable def cl_b342_e : List (Nat × e2_S) := [(3, e2_cutL (al_b342_0.set 4 (11, 2147483648, 2147483651)) 3 (E_b342_0.take 3) h_b342_0)]
set_option maxRecDepth 1000000 in
theorem ck_b342_e : e2_run (e2_cal S_b342 I_b342 4000 0) (e2_fin rs_b342) e2x_188 (e2_bpL cl_b342_e) (e2_cutA cl_b342_e) 4000 (e2_seek e2x_188 0) (e2_al 5 as_b342) [] E_b342 f_b342 = true := by decide +kernel
noncomputable def cl_b342_0 : List (Nat × e2_S) := [(3, e2_cutL (al_b342_0.set 4 (13, 11, 2147483651)) 3 (E_b342_0.take 3) h_b342_0)]
set_option maxRecDepth 1000000 in
theorem ck_b342_0 : e2_runM (e2_cal S_b342 I_b342 4000 0) (e2_fin rs_b342) e2x_188 (e2_bpL cl_b342_0) (e2_cutA cl_b342_0) 4000 (e2_seek e2x_188 3) al_b342_0 [] E_b342_0 h_b342_0 = true := by decide +kernel
set_option maxRecDepth 1000000 in
theorem ci_b342_0 : e2_idl 3 (al_b342_0.set 4 (9, 0, 0)) = true := by decide +kernel
set_option maxRecDepth 1000000 in
theorem cj_b342_0 : e2_idh 3 8 h_b342_0 = true := by decide +kernel
theorem cs_b342 (hen : en_ok) (l : Launch) : e2_smOk l 1 s_b342 := by
  refine e2_conG (H := 0) (n := 0) (C := evd_188) (S := S_b342) (I := I_b342) (fuel := 4000) hen ei_188 e2_fz e2_fz (by decide) co_b342 fun M d _ hC hcall p e R s m args below meth c Q D cA A ads r0 ha hl0 => ?_
  have L_0 : e2_gdM M p l e R s m args below meth c Q D cA A ads r0 3 al_b342_0 [] E_b342_0 h_b342_0 := by
    refine e2_indL (u := 3) (j := 4) (lo := 2147483648) (hi := 2147483651) (b := 3) (dd := 0) hl0 (by decide) rfl rfl (Or.inr ⟨rfl, rfl⟩) rfl ci_b342_0 cj_b342_0 ?_
    intro r_0 k_0 hk_0 hp_0 hs_0 hn_0
    have hl_0 : r_0.length ≤ 4 := hs_0.len rfl
    have ha_0 := ha.ext hp_0
    exact e2_fromM hen ha_0 hcall (e2_cutA_ok (e2_fa (fun al st E h hc => hn_0 al st E h hc) e2_fz)) (hC []) (X := e2x_188) ex2_188 3 ck_b342_0
  have EN_0 := e2_entL (u := 3) (j := 4) (lo := 2147483648) (hi := 2147483651) hl0 rfl rfl rfl ci_b342_0 cj_b342_0 L_0
  exact e2_from hen ha hcall (e2_cutA_ok (e2_fa (fun al st E h hc => EN_0 al st E h hc) e2_fz)) (hC []) (X := e2x_188) ex2_188 0 ck_b342_e
/-! b343 X10_thingHere -/
def as_b343 : List ev_V := [(2, 83, 0)]
def E_b343 : e2_E := [(2147483648, 2147583648, 0, 0), (2147483648, 2147483656, 1, 0), (2147483648, 2147485249, 2, 0)]
def bn1663 : e2_Q6 := (bn964, bn1639)
def bn1664 : e2_Q7 := (bn736, bn1663)
def bn1665 : e2_Q8 := (bn733, bn1664)
noncomputable def f_b343 : ev_H := (bn1665 : e2_Q8)
noncomputable def q_b343_0 : ev_H := (bn1665 : e2_Q8)
noncomputable def rs_b343 : e2_Rs := [((0, 4294967295, 0), q_b343_0)]
noncomputable def s_b343 : e2_Sm := (189, as_b343, E_b343, f_b343, rs_b343)
noncomputable def S_b343 : List e2_Sm := [s_b342]
noncomputable def I_b343 : List e2_In := []
set_option maxRecDepth 1000000 in
theorem ck_b343 : e2_run (e2_cal S_b343 I_b343 4000 0) (e2_fin rs_b343) e2x_189 (fun _ => false) (fun _ _ _ _ _ => false) 4000 (e2_seek e2x_189 0) (e2_al 1 as_b343) [] E_b343 f_b343 = true := by decide +kernel
set_option maxRecDepth 1000000 in
theorem co_b343 : e2_okSB E_b343.length as_b343 f_b343 rs_b343 = true := by decide +kernel
theorem cs_b343 (hen : en_ok) (l : Launch) : e2_smOk l 2 s_b343 := e2_con0 (H := 1) (n := 0) (C := evd_189) (S := S_b343) (I := I_b343) (fuel := 4000) [] hen ei_189 (e2_fa (cs_b342 hen l) e2_fz) e2_fz (by decide) co_b343 ex2_189 ck_b343
/-! b344 X10_readThing -/
def as_b344 : List ev_V := [(2, 83, 0)]
def E_b344 : e2_E := [(2147483648, 2147583648, 0, 0), (2147483648, 2147483656, 1, 0), (2147483648, 2147485249, 2, 0)]
def bn1666 : e2_Q6 := (bn964, bn836)
def bn1667 : e2_Q7 := (bn1490, bn1666)
def bn1668 : e2_Q8 := (bn733, bn1667)
noncomputable def f_b344 : ev_H := (bn1668 : e2_Q8)
def bn1669 : e2_Q6 := (bn382, bn1650)
def bn1670 : e2_Q7 := (bn1490, bn1669)
def bn1671 : e2_Q8 := (bn733, bn1670)
noncomputable def q_b344_0 : ev_H := (bn1671 : e2_Q8)
noncomputable def rs_b344 : e2_Rs := [((9, 0, 0), q_b344_0)]
noncomputable def s_b344 : e2_Sm := (193, as_b344, E_b344, f_b344, rs_b344)
noncomputable def S_b344 : List e2_Sm := [s_b224, s_b268, s_b343]
noncomputable def I_b344 : List e2_In := []
set_option maxRecDepth 1000000 in
theorem ck_b344 : e2_run (e2_cal S_b344 I_b344 4000 0) (e2_fin rs_b344) e2x_193 (fun _ => false) (fun _ _ _ _ _ => false) 4000 (e2_seek e2x_193 0) (e2_al 2 as_b344) [] E_b344 f_b344 = true := by decide +kernel
set_option maxRecDepth 1000000 in
theorem co_b344 : e2_okSB E_b344.length as_b344 f_b344 rs_b344 = true := by decide +kernel
theorem cs_b344 (hen : en_ok) (l : Launch) : e2_smOk l 5 s_b344 := e2_con0 (H := 4) (n := 0) (C := evd_193) (S := S_b344) (I := I_b344) (fuel := 4000) [] hen ei_193 (e2_fa (cs_b224 hen l) (e2_fa ((cs_b268 hen l).mono (by decide)) (e2_fa ((cs_b343 hen l).mono (by decide)) e2_fz))) e2_fz (by decide) co_b344 ex2_193 ck_b344
/-! b345 X10_thingHere -/
def as_b345 : List ev_V := [(2, 83, 0)]
def E_b345 : e2_E := [(2147483648, 2147583648, 0, 0), (2147483648, 2147483656, 1, 0), (2147483648, 2147485249, 2, 0)]
def bn1672 : e2_Q6 := (bn992, bn1639)
def bn1673 : e2_Q7 := (bn736, bn1672)
def bn1674 : e2_Q8 := (bn733, bn1673)
noncomputable def f_b345 : ev_H := (bn1674 : e2_Q8)
noncomputable def q_b345_0 : ev_H := (bn1674 : e2_Q8)
noncomputable def rs_b345 : e2_Rs := [((0, 4294967295, 0), q_b345_0)]
noncomputable def s_b345 : e2_Sm := (189, as_b345, E_b345, f_b345, rs_b345)
noncomputable def S_b345 : List e2_Sm := [s_b302]
noncomputable def I_b345 : List e2_In := []
set_option maxRecDepth 1000000 in
theorem ck_b345 : e2_run (e2_cal S_b345 I_b345 4000 0) (e2_fin rs_b345) e2x_189 (fun _ => false) (fun _ _ _ _ _ => false) 4000 (e2_seek e2x_189 0) (e2_al 1 as_b345) [] E_b345 f_b345 = true := by decide +kernel
set_option maxRecDepth 1000000 in
theorem co_b345 : e2_okSB E_b345.length as_b345 f_b345 rs_b345 = true := by decide +kernel
theorem cs_b345 (hen : en_ok) (l : Launch) : e2_smOk l 2 s_b345 := e2_con0 (H := 1) (n := 0) (C := evd_189) (S := S_b345) (I := I_b345) (fuel := 4000) [] hen ei_189 (e2_fa (cs_b302 hen l) e2_fz) e2_fz (by decide) co_b345 ex2_189 ck_b345
/-! b346 X10_readThing -/
def as_b346 : List ev_V := [(2, 83, 0)]
def E_b346 : e2_E := [(2147483648, 2147583648, 0, 0), (2147483648, 2147483656, 1, 0), (2147483648, 2147485249, 2, 0)]
def bn1675 : e2_Q6 := (bn992, bn836)
def bn1676 : e2_Q7 := (bn1490, bn1675)
def bn1677 : e2_Q8 := (bn733, bn1676)
noncomputable def f_b346 : ev_H := (bn1677 : e2_Q8)
def bn1678 : e2_Q6 := (bn366, bn1650)
def bn1679 : e2_Q7 := (bn1490, bn1678)
def bn1680 : e2_Q8 := (bn733, bn1679)
noncomputable def q_b346_0 : ev_H := (bn1680 : e2_Q8)
noncomputable def rs_b346 : e2_Rs := [((9, 0, 0), q_b346_0)]
noncomputable def s_b346 : e2_Sm := (193, as_b346, E_b346, f_b346, rs_b346)
noncomputable def S_b346 : List e2_Sm := [s_b222, s_b275, s_b345]
noncomputable def I_b346 : List e2_In := []
set_option maxRecDepth 1000000 in
theorem ck_b346 : e2_run (e2_cal S_b346 I_b346 4000 0) (e2_fin rs_b346) e2x_193 (fun _ => false) (fun _ _ _ _ _ => false) 4000 (e2_seek e2x_193 0) (e2_al 2 as_b346) [] E_b346 f_b346 = true := by decide +kernel
set_option maxRecDepth 1000000 in
theorem co_b346 : e2_okSB E_b346.length as_b346 f_b346 rs_b346 = true := by decide +kernel
theorem cs_b346 (hen : en_ok) (l : Launch) : e2_smOk l 5 s_b346 := e2_con0 (H := 4) (n := 0) (C := evd_193) (S := S_b346) (I := I_b346) (fuel := 4000) [] hen ei_193 (e2_fa (cs_b222 hen l) (e2_fa ((cs_b275 hen l).mono (by decide)) (e2_fa ((cs_b345 hen l).mono (by decide)) e2_fz))) e2_fz (by decide) co_b346 ex2_193 ck_b346
/-! b347 X10_thingHere -/
def as_b347 : List ev_V := [(2, 83, 0)]
def E_b347 : e2_E := [(2147483648, 2147583648, 0, 0), (2147483648, 2147483656, 1, 0), (2147483648, 2147485249, 2, 0)]
def bn1681 : e2_Q6 := (bn1044, bn1639)
def bn1682 : e2_Q7 := (bn1490, bn1681)
def bn1683 : e2_Q8 := (bn733, bn1682)
noncomputable def f_b347 : ev_H := (bn1683 : e2_Q8)
noncomputable def q_b347_0 : ev_H := (bn1683 : e2_Q8)
noncomputable def rs_b347 : e2_Rs := [((11, 2147483647, 2147483651), q_b347_0)]
noncomputable def s_b347 : e2_Sm := (189, as_b347, E_b347, f_b347, rs_b347)
noncomputable def S_b347 : List e2_Sm := [s_b304]
noncomputable def I_b347 : List e2_In := []
set_option maxRecDepth 1000000 in
theorem ck_b347 : e2_run (e2_cal S_b347 I_b347 4000 0) (e2_fin rs_b347) e2x_189 (fun _ => false) (fun _ _ _ _ _ => false) 4000 (e2_seek e2x_189 0) (e2_al 1 as_b347) [] E_b347 f_b347 = true := by decide +kernel
set_option maxRecDepth 1000000 in
theorem co_b347 : e2_okSB E_b347.length as_b347 f_b347 rs_b347 = true := by decide +kernel
theorem cs_b347 (hen : en_ok) (l : Launch) : e2_smOk l 2 s_b347 := e2_con0 (H := 1) (n := 0) (C := evd_189) (S := S_b347) (I := I_b347) (fuel := 4000) [] hen ei_189 (e2_fa (cs_b304 hen l) e2_fz) e2_fz (by decide) co_b347 ex2_189 ck_b347
/-! b348 X10_readThing -/
def as_b348 : List ev_V := [(2, 83, 0)]
def E_b348 : e2_E := [(2147483648, 2147583648, 0, 0), (2147483648, 2147483656, 1, 0), (2147483648, 2147485249, 2, 0)]
def bn1684 : e2_Q6 := (bn1489, bn356)
def bn1685 : e2_Q6 := (bn1044, bn836)
def bn1686 : e2_Q7 := (bn1684, bn1685)
def bn1687 : e2_Q8 := (bn733, bn1686)
noncomputable def f_b348 : ev_H := (bn1687 : e2_Q8)
def bn1688 : e2_Q6 := (bn1134, bn1650)
def bn1689 : e2_Q7 := (bn1684, bn1688)
def bn1690 : e2_Q8 := (bn733, bn1689)
noncomputable def q_b348_0 : ev_H := (bn1690 : e2_Q8)
def bn1691 : e2_Q7 := (bn1684, bn1678)
def bn1692 : e2_Q8 := (bn733, bn1691)
noncomputable def q_b348_1 : ev_H := (bn1692 : e2_Q8)
def bn1693 : e2_Q7 := (bn1684, bn1651)
def bn1694 : e2_Q8 := (bn733, bn1693)
noncomputable def q_b348_2 : ev_H := (bn1694 : e2_Q8)
def bn1695 : e2_Q6 := (bn1122, bn1650)
def bn1696 : e2_Q7 := (bn1684, bn1695)
def bn1697 : e2_Q8 := (bn733, bn1696)
noncomputable def q_b348_3 : ev_H := (bn1697 : e2_Q8)
def bn1698 : e2_Q6 := (bn1024, bn1650)
def bn1699 : e2_Q7 := (bn1684, bn1698)
def bn1700 : e2_Q8 := (bn733, bn1699)
noncomputable def q_b348_4 : ev_H := (bn1700 : e2_Q8)
def bn1701 : e2_Q6 := (bn936, bn1650)
def bn1702 : e2_Q7 := (bn1684, bn1701)
def bn1703 : e2_Q8 := (bn733, bn1702)
noncomputable def q_b348_5 : ev_H := (bn1703 : e2_Q8)
def bn1704 : e2_Q6 := (bn1016, bn1650)
def bn1705 : e2_Q7 := (bn1684, bn1704)
def bn1706 : e2_Q8 := (bn733, bn1705)
noncomputable def q_b348_6 : ev_H := (bn1706 : e2_Q8)
def bn1707 : e2_Q6 := (bn1008, bn1650)
def bn1708 : e2_Q7 := (bn1684, bn1707)
def bn1709 : e2_Q8 := (bn733, bn1708)
noncomputable def q_b348_7 : ev_H := (bn1709 : e2_Q8)
def bn1710 : e2_Q6 := (bn1000, bn1650)
def bn1711 : e2_Q7 := (bn1684, bn1710)
def bn1712 : e2_Q8 := (bn733, bn1711)
noncomputable def q_b348_8 : ev_H := (bn1712 : e2_Q8)
def bn1713 : e2_Q6 := (bn460, bn1650)
def bn1714 : e2_Q7 := (bn1684, bn1713)
def bn1715 : e2_Q8 := (bn733, bn1714)
noncomputable def q_b348_9 : ev_H := (bn1715 : e2_Q8)
noncomputable def rs_b348 : e2_Rs := [((9, 0, 0), q_b348_0), ((9, 0, 0), q_b348_1), ((9, 0, 0), q_b348_2), ((9, 0, 0), q_b348_3), ((9, 0, 0), q_b348_4), ((9, 0, 0), q_b348_5), ((9, 0, 0), q_b348_6), ((9, 0, 0), q_b348_7), ((9, 0, 0), q_b348_8), ((9, 0, 0), q_b348_9)]
noncomputable def s_b348 : e2_Sm := (193, as_b348, E_b348, f_b348, rs_b348)
noncomputable def S_b348 : List e2_Sm := [s_b225, s_b226, s_b227, s_b228, s_b229, s_b230, s_b282, s_b347]
noncomputable def I_b348 : List e2_In := []
set_option maxRecDepth 1000000 in
theorem ck_b348 : e2_run (e2_cal S_b348 I_b348 4000 0) (e2_fin rs_b348) e2x_193 (fun _ => false) (fun _ _ _ _ _ => false) 4000 (e2_seek e2x_193 0) (e2_al 2 as_b348) [] E_b348 f_b348 = true := by decide +kernel
set_option maxRecDepth 1000000 in
theorem co_b348 : e2_okSB E_b348.length as_b348 f_b348 rs_b348 = true := by decide +kernel
theorem cs_b348 (hen : en_ok) (l : Launch) : e2_smOk l 9 s_b348 := e2_con0 (H := 8) (n := 0) (C := evd_193) (S := S_b348) (I := I_b348) (fuel := 4000) [] hen ei_193 (e2_fa ((cs_b225 hen l).mono (by decide)) (e2_fa (cs_b226 hen l) (e2_fa ((cs_b227 hen l).mono (by decide)) (e2_fa ((cs_b228 hen l).mono (by decide)) (e2_fa (cs_b229 hen l) (e2_fa ((cs_b230 hen l).mono (by decide)) (e2_fa ((cs_b282 hen l).mono (by decide)) (e2_fa ((cs_b347 hen l).mono (by decide)) e2_fz)))))))) e2_fz (by decide) co_b348 ex2_193 ck_b348
/-! b349 X10_readLine -/
def as_b349 : List ev_V := [(2, 83, 0)]
def E_b349 : e2_E := [(2147483648, 2147583648, 0, 0), (2147483648, 2147483656, 1, 0), (2147483648, 2147485249, 2, 0)]
def bn1716 : e2_Q5 := (bn329, bn806)
def bn1717 : e2_Q5 := (bn755, bn60)
def bn1718 : e2_Q6 := (bn1716, bn1717)
def bn1719 : e2_Q4 := (bn1396, bn761)
def bn1720 : e2_Q5 := (bn1393, bn1719)
def bn1721 : e2_Q4 := (bn706, bn766)
def bn1722 : e2_Q4 := (bn115, bn769)
def bn1723 : e2_Q5 := (bn1721, bn1722)
def bn1724 : e2_Q6 := (bn1720, bn1723)
def bn1725 : e2_Q7 := (bn1718, bn1724)
def bn1726 : e2_Q4 := (bn1487, bn775)
def bn1727 : e2_Q5 := (bn350, bn1726)
def bn1728 : e2_Q4 := (bn178, bn780)
def bn1729 : e2_Q5 := (bn1616, bn1728)
def bn1730 : e2_Q6 := (bn1727, bn1729)
def bn1731 : e2_Q4 := (bn1402, bn902)
def bn1732 : e2_Q4 := (bn210, bn789)
def bn1733 : e2_Q5 := (bn1731, bn1732)
def bn1734 : e2_Q5 := (bn798, bn835)
def bn1735 : e2_Q6 := (bn1733, bn1734)
def bn1736 : e2_Q7 := (bn1730, bn1735)
def bn1737 : e2_Q8 := (bn1725, bn1736)
noncomputable def f_b349 : ev_H := (bn1737 : e2_Q8)
def bc241 : ev_C := (10, [(0, 0, 0), (2, 88, 0), (2, 115, 0), (2, 114, 0), (2, 86, 0), (2, 112, 0), (11, 2147483648, 2147483688), (2, 118, 0), (2, 120, 0), (2, 131, 0), (2, 91, 0), (11, 2147483648, 2147483668), (2, 123, 0), (0, 1, 0), (11, 2147483648, 2147485248), (2, 87, 0), (2, 84, 0), (2, 122, 0), (2, 100, 0), (2, 132, 0), (11, 2147483648, 2147483668), (11, 2147483648, 2147485248), (1, 0, 4294967296), (11, 2147483649, 2147483653), (11, 2147483648, 2147485248), (2, 93, 0), (2, 104, 0), (11, 2147483648, 2147483678), (2, 89, 0), (2, 92, 0), (2, 119, 0), (2, 90, 0), (2, 94, 0), (2, 103, 0), (11, 2147483648, 2147483688), (11, 2147483648, 2147549184), (11, 0, 4294967295), (13, 2, 2147485249), (11, 2147483650, 2147483651), (11, 2147483648, 2147483668), (2, 85, 0), (11, 0, 4294967295), (5, 0, 0), (2, 95, 0), (2, 96, 0), (2, 97, 0), (2, 98, 0), (2, 99, 0), (2, 101, 0), (2, 102, 0), (2, 105, 0), (2, 106, 0), (2, 107, 0), (2, 108, 0), (2, 109, 0), (2, 110, 0), (2, 111, 0), (11, 2147483648, 2147484768), (11, 2147482048, 2147483655), (11, 2147483648, 2147483738), (11, 2147483648, 2147483678), (11, 0, 4294967295), (11, 0, 4294967295), (11, 0, 4294967295), (11, 0, 4294967295), (11, 0, 4294967295), (2, 113, 0), (2, 116, 0), (2, 117, 0), (2, 121, 0), (11, 0, 4294967295), (11, 0, 4294967295), (2, 124, 0), (2, 125, 0), (11, 0, 4294967295), (2, 126, 0), (2, 127, 0), (2, 128, 0), (2, 129, 0), (2, 130, 0)])
def bn1738 : e2_Q1 := (bc241, bc3)
def bn1739 : e2_Q2 := (bn196, bn1738)
def bn1740 : e2_Q3 := (bn1739, bn201)
def bn1741 : e2_Q4 := (bn1402, bn1740)
def bn1742 : e2_Q5 := (bn1741, bn1732)
def bn1743 : e2_Q6 := (bn1742, bn1734)
def bn1744 : e2_Q7 := (bn1730, bn1743)
def bn1745 : e2_Q8 := (bn1725, bn1744)
noncomputable def q_b349_0 : ev_H := (bn1745 : e2_Q8)
def bn1746 : e2_Q4 := (bn1402, bn1108)
def bn1747 : e2_Q5 := (bn1746, bn1732)
def bn1748 : e2_Q6 := (bn1747, bn1734)
def bn1749 : e2_Q7 := (bn1730, bn1748)
def bn1750 : e2_Q8 := (bn1725, bn1749)
noncomputable def q_b349_1 : ev_H := (bn1750 : e2_Q8)
def bn1751 : e2_Q5 := (bn1415, bn1732)
def bn1752 : e2_Q6 := (bn1751, bn1734)
def bn1753 : e2_Q7 := (bn1730, bn1752)
def bn1754 : e2_Q8 := (bn1725, bn1753)
noncomputable def q_b349_2 : ev_H := (bn1754 : e2_Q8)
def bn1755 : e2_Q5 := (bn1429, bn1732)
def bn1756 : e2_Q6 := (bn1755, bn1734)
def bn1757 : e2_Q7 := (bn1730, bn1756)
def bn1758 : e2_Q8 := (bn1725, bn1757)
noncomputable def q_b349_3 : ev_H := (bn1758 : e2_Q8)
def bn1759 : e2_Q5 := (bn1539, bn1732)
def bn1760 : e2_Q6 := (bn1759, bn1734)
def bn1761 : e2_Q7 := (bn1730, bn1760)
def bn1762 : e2_Q8 := (bn1725, bn1761)
noncomputable def q_b349_4 : ev_H := (bn1762 : e2_Q8)
def bn1763 : e2_Q5 := (bn1544, bn1732)
def bn1764 : e2_Q6 := (bn1763, bn1734)
def bn1765 : e2_Q7 := (bn1730, bn1764)
def bn1766 : e2_Q8 := (bn1725, bn1765)
noncomputable def q_b349_5 : ev_H := (bn1766 : e2_Q8)
def bn1767 : e2_Q5 := (bn1549, bn1732)
def bn1768 : e2_Q6 := (bn1767, bn1734)
def bn1769 : e2_Q7 := (bn1730, bn1768)
def bn1770 : e2_Q8 := (bn1725, bn1769)
noncomputable def q_b349_6 : ev_H := (bn1770 : e2_Q8)
def bn1771 : e2_Q5 := (bn1554, bn1732)
def bn1772 : e2_Q6 := (bn1771, bn1734)
def bn1773 : e2_Q7 := (bn1730, bn1772)
def bn1774 : e2_Q8 := (bn1725, bn1773)
noncomputable def q_b349_7 : ev_H := (bn1774 : e2_Q8)
def bn1775 : e2_Q5 := (bn1559, bn1732)
def bn1776 : e2_Q6 := (bn1775, bn1734)
def bn1777 : e2_Q7 := (bn1730, bn1776)
def bn1778 : e2_Q8 := (bn1725, bn1777)
noncomputable def q_b349_8 : ev_H := (bn1778 : e2_Q8)
def bn1779 : e2_Q5 := (bn1443, bn1732)
def bn1780 : e2_Q6 := (bn1779, bn1734)
def bn1781 : e2_Q7 := (bn1730, bn1780)
def bn1782 : e2_Q8 := (bn1725, bn1781)
noncomputable def q_b349_9 : ev_H := (bn1782 : e2_Q8)
def bn1783 : e2_Q5 := (bn1573, bn1732)
def bn1784 : e2_Q6 := (bn1783, bn1734)
def bn1785 : e2_Q7 := (bn1730, bn1784)
def bn1786 : e2_Q8 := (bn1725, bn1785)
noncomputable def q_b349_10 : ev_H := (bn1786 : e2_Q8)
def bn1787 : e2_Q4 := (bn747, bn1410)
def bn1788 : e2_Q5 := (bn329, bn1787)
def bn1789 : e2_Q6 := (bn1788, bn1717)
def bn1790 : e2_Q7 := (bn1789, bn1724)
def bn1791 : e2_Q8 := (bn1790, bn1749)
noncomputable def q_b349_11 : ev_H := (bn1791 : e2_Q8)
def bn1792 : e2_Q8 := (bn1790, bn1753)
noncomputable def q_b349_12 : ev_H := (bn1792 : e2_Q8)
def bn1793 : e2_Q8 := (bn1790, bn1781)
noncomputable def q_b349_13 : ev_H := (bn1793 : e2_Q8)
def bn1794 : e2_Q8 := (bn1790, bn1785)
noncomputable def q_b349_14 : ev_H := (bn1794 : e2_Q8)
def bn1795 : e2_Q5 := (bn405, bn1726)
def bn1796 : e2_Q6 := (bn1795, bn1729)
def bn1797 : e2_Q7 := (bn1796, bn1760)
def bn1798 : e2_Q8 := (bn1790, bn1797)
noncomputable def q_b349_15 : ev_H := (bn1798 : e2_Q8)
def bn1799 : e2_Q7 := (bn1796, bn1764)
def bn1800 : e2_Q8 := (bn1790, bn1799)
noncomputable def q_b349_16 : ev_H := (bn1800 : e2_Q8)
def bn1801 : e2_Q7 := (bn1796, bn1768)
def bn1802 : e2_Q8 := (bn1790, bn1801)
noncomputable def q_b349_17 : ev_H := (bn1802 : e2_Q8)
def bn1803 : e2_Q7 := (bn1796, bn1772)
def bn1804 : e2_Q8 := (bn1790, bn1803)
noncomputable def q_b349_18 : ev_H := (bn1804 : e2_Q8)
def bn1805 : e2_Q7 := (bn1796, bn1776)
def bn1806 : e2_Q8 := (bn1790, bn1805)
noncomputable def q_b349_19 : ev_H := (bn1806 : e2_Q8)
def bn1807 : e2_Q5 := (bn1534, bn1732)
def bn1808 : e2_Q6 := (bn1807, bn1734)
def bn1809 : e2_Q7 := (bn1730, bn1808)
def bn1810 : e2_Q8 := (bn1790, bn1809)
noncomputable def q_b349_20 : ev_H := (bn1810 : e2_Q8)
def bn1811 : e2_Q8 := (bn1790, bn1757)
noncomputable def q_b349_21 : ev_H := (bn1811 : e2_Q8)
noncomputable def rs_b349 : e2_Rs := [((9, 0, 0), q_b349_0), ((9, 0, 0), q_b349_1), ((9, 0, 0), q_b349_2), ((9, 0, 0), q_b349_3), ((9, 0, 0), q_b349_4), ((9, 0, 0), q_b349_5), ((9, 0, 0), q_b349_6), ((9, 0, 0), q_b349_7), ((9, 0, 0), q_b349_8), ((9, 0, 0), q_b349_9), ((9, 0, 0), q_b349_10), ((9, 0, 0), q_b349_11), ((9, 0, 0), q_b349_12), ((9, 0, 0), q_b349_13), ((9, 0, 0), q_b349_14), ((9, 0, 0), q_b349_15), ((9, 0, 0), q_b349_16), ((9, 0, 0), q_b349_17), ((9, 0, 0), q_b349_18), ((9, 0, 0), q_b349_19), ((9, 0, 0), q_b349_20), ((9, 0, 0), q_b349_21)]
noncomputable def s_b349 : e2_Sm := (187, as_b349, E_b349, f_b349, rs_b349)
noncomputable def S_b349 : List e2_Sm := [s_b173, s_b178, s_b179, s_b180, s_b181, s_b182, s_b183, s_b184, s_b185, s_b186, s_b187, s_b188, s_b189, s_b190, s_b191, s_b192, s_b193, s_b194, s_b195, s_b196, s_b197, s_b198, s_b199, s_b217, s_b218, s_b219, s_b220, s_b221, s_b249, s_b250, s_b251, s_b252, s_b253, s_b260, s_b267, s_b274, s_b281, s_b316, s_b317, s_b319, s_b321, s_b322, s_b331, s_b332, s_b333, s_b334, s_b335, s_b336, s_b338, s_b341, s_b344, s_b346, s_b348]
noncomputable def I_b349 : List e2_In := [(170, 2, e2x_170), (173, 3, e2x_173), (174, 1, e2x_174), (178, 2, e2x_178), (179, 3, e2x_179), (180, 1, e2x_180), (186, 1, e2x_186)]
set_option maxRecDepth 1000000 in
theorem ck_b349 : e2_run (e2_cal S_b349 I_b349 4000 2) (e2_fin rs_b349) e2x_187 (fun _ => false) (fun _ _ _ _ _ => false) 4000 (e2_seek e2x_187 0) (e2_al 3 as_b349) [] E_b349 f_b349 = true := by decide +kernel
set_option maxRecDepth 1000000 in
theorem co_b349 : e2_okSB E_b349.length as_b349 f_b349 rs_b349 = true := by decide +kernel
theorem cs_b349 (hen : en_ok) (l : Launch) (hh : e2_hand_b l) : e2_smOk l 65 s_b349 := e2_con0 (H := 62) (n := 2) (C := evd_187) (S := S_b349) (I := I_b349) (fuel := 4000) [] hen ei_187 (e2_fa ((cs_b173 hen l).mono (by decide)) (e2_fa ((cs_b178 hen l).mono (by decide)) (e2_fa ((cs_b179 hen l).mono (by decide)) (e2_fa ((cs_b180 hen l).mono (by decide)) (e2_fa ((cs_b181 hen l).mono (by decide)) (e2_fa ((cs_b182 hen l).mono (by decide)) (e2_fa ((cs_b183 hen l).mono (by decide)) (e2_fa ((cs_b184 hen l).mono (by decide)) (e2_fa ((cs_b185 hen l).mono (by decide)) (e2_fa ((cs_b186 hen l).mono (by decide)) (e2_fa ((cs_b187 hen l).mono (by decide)) (e2_fa ((cs_b188 hen l).mono (by decide)) (e2_fa ((cs_b189 hen l).mono (by decide)) (e2_fa ((cs_b190 hen l).mono (by decide)) (e2_fa ((cs_b191 hen l).mono (by decide)) (e2_fa ((cs_b192 hen l).mono (by decide)) (e2_fa ((cs_b193 hen l).mono (by decide)) (e2_fa ((cs_b194 hen l).mono (by decide)) (e2_fa ((cs_b195 hen l).mono (by decide)) (e2_fa ((cs_b196 hen l).mono (by decide)) (e2_fa ((cs_b197 hen l).mono (by decide)) (e2_fa ((cs_b198 hen l).mono (by decide)) (e2_fa ((cs_b199 hen l).mono (by decide)) (e2_fa ((cs_b217 hen l).mono (by decide)) (e2_fa ((cs_b218 hen l).mono (by decide)) (e2_fa ((cs_b219 hen l).mono (by decide)) (e2_fa ((cs_b220 hen l).mono (by decide)) (e2_fa ((cs_b221 hen l).mono (by decide)) (e2_fa ((cs_b249 hen l).mono (by decide)) (e2_fa ((cs_b250 hen l).mono (by decide)) (e2_fa ((cs_b251 hen l).mono (by decide)) (e2_fa ((cs_b252 hen l).mono (by decide)) (e2_fa ((cs_b253 hen l).mono (by decide)) (e2_fa (cs_b260 hen l hh) (e2_fa (cs_b267 hen l hh) (e2_fa (cs_b274 hen l hh) (e2_fa (cs_b281 hen l hh) (e2_fa (cs_b316 hen l hh) (e2_fa ((cs_b317 hen l).mono (by decide)) (e2_fa ((cs_b319 hen l).mono (by decide)) (e2_fa ((cs_b321 hen l).mono (by decide)) (e2_fa ((cs_b322 hen l).mono (by decide)) (e2_fa ((cs_b331 hen l).mono (by decide)) (e2_fa ((cs_b332 hen l hh).mono (by decide)) (e2_fa ((cs_b333 hen l hh).mono (by decide)) (e2_fa ((cs_b334 hen l hh).mono (by decide)) (e2_fa ((cs_b335 hen l hh).mono (by decide)) (e2_fa ((cs_b336 hen l hh).mono (by decide)) (e2_fa ((cs_b338 hen l).mono (by decide)) (e2_fa ((cs_b341 hen l).mono (by decide)) (e2_fa ((cs_b344 hen l).mono (by decide)) (e2_fa ((cs_b346 hen l).mono (by decide)) (e2_fa ((cs_b348 hen l).mono (by decide)) e2_fz))))))))))))))))))))))))))))))))))))))))))))))))))))) (e2_fa ein_170 (e2_fa ein_173 (e2_fa ein_174 (e2_fa ein_178 (e2_fa ein_179 (e2_fa ein_180 (e2_fa ein_186 e2_fz))))))) (by decide) co_b349 ex2_187 ck_b349
/-! b350 X10_glyphHere -/
def as_b350 : List ev_V := [(2, 83, 0)]
def E_b350 : e2_E := [(2147483648, 2147583648, 0, 0), (2147483648, 2147483656, 1, 0), (2147483648, 2147485249, 2, 0)]
def bn1812 : e2_Q5 := (bn14, bn1411)
def bn1813 : e2_Q6 := (bn1812, bn338)
def bn1814 : e2_Q7 := (bn1813, bn345)
def bn1815 : e2_Q8 := (bn1814, bn1098)
noncomputable def f_b350 : ev_H := (bn1815 : e2_Q8)
noncomputable def q_b350_0 : ev_H := (bn1815 : e2_Q8)
noncomputable def rs_b350 : e2_Rs := [((0, 4294967295, 0), q_b350_0)]
noncomputable def s_b350 : e2_Sm := (190, as_b350, E_b350, f_b350, rs_b350)
noncomputable def S_b350 : List e2_Sm := [s_b255]
noncomputable def I_b350 : List e2_In := []
set_option maxRecDepth 1000000 in
theorem ck_b350 : e2_run (e2_cal S_b350 I_b350 4000 0) (e2_fin rs_b350) e2x_190 (fun _ => false) (fun _ _ _ _ _ => false) 4000 (e2_seek e2x_190 0) (e2_al 1 as_b350) [] E_b350 f_b350 = true := by decide +kernel
set_option maxRecDepth 1000000 in
theorem co_b350 : e2_okSB E_b350.length as_b350 f_b350 rs_b350 = true := by decide +kernel
theorem cs_b350 (hen : en_ok) (l : Launch) : e2_smOk l 2 s_b350 := e2_con0 (H := 1) (n := 0) (C := evd_190) (S := S_b350) (I := I_b350) (fuel := 4000) [] hen ei_190 (e2_fa (cs_b255 hen l) e2_fz) e2_fz (by decide) co_b350 ex2_190 ck_b350
/-! b351 X10_readGlyph -/
def as_b351 : List ev_V := [(2, 83, 0)]
def E_b351 : e2_E := [(2147483648, 2147583648, 0, 0), (2147483648, 2147483656, 1, 0), (2147483648, 2147485249, 2, 0)]
def bn1816 : e2_Q7 := (bn407, bn1405)
def bn1817 : e2_Q8 := (bn1414, bn1816)
noncomputable def f_b351 : ev_H := (bn1817 : e2_Q8)
def bc242 : ev_C := (50, [(1, 1, 4294967296), (0, 2, 0)])
def bn1818 : e2_Q1 := (bc242, bc3)
def bn1819 : e2_Q2 := (bn22, bn1818)
def bn1820 : e2_Q3 := (bn1819, bn27)
def bn1821 : e2_Q4 := (bn21, bn1820)
def bn1822 : e2_Q5 := (bn329, bn1821)
def bn1823 : e2_Q6 := (bn1822, bn338)
def bn1824 : e2_Q7 := (bn1823, bn1399)
def bn1825 : e2_Q7 := (bn407, bn1417)
def bn1826 : e2_Q8 := (bn1824, bn1825)
noncomputable def q_b351_0 : ev_H := (bn1826 : e2_Q8)
noncomputable def rs_b351 : e2_Rs := [((9, 0, 0), q_b351_0)]
noncomputable def s_b351 : e2_Sm := (196, as_b351, E_b351, f_b351, rs_b351)
noncomputable def S_b351 : List e2_Sm := [s_b37, s_b179, s_b233, s_b254, s_b257, s_b259, s_b350]
noncomputable def I_b351 : List e2_In := [(179, 3, e2x_179)]
set_option maxRecDepth 1000000 in
theorem ck_b351 : e2_run (e2_cal S_b351 I_b351 4000 1) (e2_fin rs_b351) e2x_196 (fun _ => false) (fun _ _ _ _ _ => false) 4000 (e2_seek e2x_196 0) (e2_al 2 as_b351) [] E_b351 f_b351 = true := by decide +kernel
set_option maxRecDepth 1000000 in
theorem co_b351 : e2_okSB E_b351.length as_b351 f_b351 rs_b351 = true := by decide +kernel
theorem cs_b351 (hen : en_ok) (l : Launch) (hh : e2_hand_b l) : e2_smOk l 62 s_b351 := e2_con0 (H := 60) (n := 1) (C := evd_196) (S := S_b351) (I := I_b351) (fuel := 4000) [] hen ei_196 (e2_fa (hh _ hm_b37) (e2_fa ((cs_b179 hen l).mono (by decide)) (e2_fa ((cs_b233 hen l).mono (by decide)) (e2_fa ((cs_b254 hen l).mono (by decide)) (e2_fa ((cs_b257 hen l).mono (by decide)) (e2_fa ((cs_b259 hen l).mono (by decide)) (e2_fa ((cs_b350 hen l).mono (by decide)) e2_fz))))))) (e2_fa ein_179 e2_fz) (by decide) co_b351 ex2_196 ck_b351
/-! b352 X10_glyphHere -/
def as_b352 : List ev_V := [(2, 83, 0)]
def E_b352 : e2_E := [(2147483648, 2147583648, 0, 0), (2147483648, 2147483656, 1, 0), (2147483648, 2147485249, 2, 0)]
def bn1827 : e2_Q8 := (bn1814, bn1088)
noncomputable def f_b352 : ev_H := (bn1827 : e2_Q8)
noncomputable def q_b352_0 : ev_H := (bn1827 : e2_Q8)
noncomputable def rs_b352 : e2_Rs := [((0, 4294967295, 0), q_b352_0)]
noncomputable def s_b352 : e2_Sm := (190, as_b352, E_b352, f_b352, rs_b352)
noncomputable def S_b352 : List e2_Sm := [s_b262]
noncomputable def I_b352 : List e2_In := []
set_option maxRecDepth 1000000 in
theorem ck_b352 : e2_run (e2_cal S_b352 I_b352 4000 0) (e2_fin rs_b352) e2x_190 (fun _ => false) (fun _ _ _ _ _ => false) 4000 (e2_seek e2x_190 0) (e2_al 1 as_b352) [] E_b352 f_b352 = true := by decide +kernel
set_option maxRecDepth 1000000 in
theorem co_b352 : e2_okSB E_b352.length as_b352 f_b352 rs_b352 = true := by decide +kernel
theorem cs_b352 (hen : en_ok) (l : Launch) : e2_smOk l 2 s_b352 := e2_con0 (H := 1) (n := 0) (C := evd_190) (S := S_b352) (I := I_b352) (fuel := 4000) [] hen ei_190 (e2_fa (cs_b262 hen l) e2_fz) e2_fz (by decide) co_b352 ex2_190 ck_b352
/-! b353 X10_readGlyph -/
def as_b353 : List ev_V := [(2, 83, 0)]
def E_b353 : e2_E := [(2147483648, 2147583648, 0, 0), (2147483648, 2147483656, 1, 0), (2147483648, 2147485249, 2, 0)]
def bn1828 : e2_Q7 := (bn407, bn1426)
def bn1829 : e2_Q8 := (bn1414, bn1828)
noncomputable def f_b353 : ev_H := (bn1829 : e2_Q8)
def bn1830 : e2_Q7 := (bn407, bn1431)
def bn1831 : e2_Q8 := (bn1824, bn1830)
noncomputable def q_b353_0 : ev_H := (bn1831 : e2_Q8)
noncomputable def rs_b353 : e2_Rs := [((9, 0, 0), q_b353_0)]
noncomputable def s_b353 : e2_Sm := (196, as_b353, E_b353, f_b353, rs_b353)
noncomputable def S_b353 : List e2_Sm := [s_b45, s_b187, s_b245, s_b261, s_b264, s_b266, s_b352]
noncomputable def I_b353 : List e2_In := [(179, 3, e2x_179)]
set_option maxRecDepth 1000000 in
theorem ck_b353 : e2_run (e2_cal S_b353 I_b353 4000 1) (e2_fin rs_b353) e2x_196 (fun _ => false) (fun _ _ _ _ _ => false) 4000 (e2_seek e2x_196 0) (e2_al 2 as_b353) [] E_b353 f_b353 = true := by decide +kernel
set_option maxRecDepth 1000000 in
theorem co_b353 : e2_okSB E_b353.length as_b353 f_b353 rs_b353 = true := by decide +kernel
theorem cs_b353 (hen : en_ok) (l : Launch) (hh : e2_hand_b l) : e2_smOk l 62 s_b353 := e2_con0 (H := 60) (n := 1) (C := evd_196) (S := S_b353) (I := I_b353) (fuel := 4000) [] hen ei_196 (e2_fa (hh _ hm_b45) (e2_fa ((cs_b187 hen l).mono (by decide)) (e2_fa ((cs_b245 hen l).mono (by decide)) (e2_fa ((cs_b261 hen l).mono (by decide)) (e2_fa ((cs_b264 hen l).mono (by decide)) (e2_fa ((cs_b266 hen l).mono (by decide)) (e2_fa ((cs_b352 hen l).mono (by decide)) e2_fz))))))) (e2_fa ein_179 e2_fz) (by decide) co_b353 ex2_196 ck_b353
/-! b354 X10_glyphHere -/
def as_b354 : List ev_V := [(2, 83, 0)]
def E_b354 : e2_E := [(2147483648, 2147583648, 0, 0), (2147483648, 2147483656, 1, 0), (2147483648, 2147485249, 2, 0)]
def bn1832 : e2_Q8 := (bn1814, bn1094)
noncomputable def f_b354 : ev_H := (bn1832 : e2_Q8)
noncomputable def q_b354_0 : ev_H := (bn1832 : e2_Q8)
noncomputable def rs_b354 : e2_Rs := [((0, 4294967295, 0), q_b354_0)]
noncomputable def s_b354 : e2_Sm := (190, as_b354, E_b354, f_b354, rs_b354)
noncomputable def S_b354 : List e2_Sm := [s_b269]
noncomputable def I_b354 : List e2_In := []
set_option maxRecDepth 1000000 in
theorem ck_b354 : e2_run (e2_cal S_b354 I_b354 4000 0) (e2_fin rs_b354) e2x_190 (fun _ => false) (fun _ _ _ _ _ => false) 4000 (e2_seek e2x_190 0) (e2_al 1 as_b354) [] E_b354 f_b354 = true := by decide +kernel
set_option maxRecDepth 1000000 in
theorem co_b354 : e2_okSB E_b354.length as_b354 f_b354 rs_b354 = true := by decide +kernel
theorem cs_b354 (hen : en_ok) (l : Launch) : e2_smOk l 2 s_b354 := e2_con0 (H := 1) (n := 0) (C := evd_190) (S := S_b354) (I := I_b354) (fuel := 4000) [] hen ei_190 (e2_fa (cs_b269 hen l) e2_fz) e2_fz (by decide) co_b354 ex2_190 ck_b354
/-! b355 X10_readGlyph -/
def as_b355 : List ev_V := [(2, 83, 0)]
def E_b355 : e2_E := [(2147483648, 2147583648, 0, 0), (2147483648, 2147483656, 1, 0), (2147483648, 2147485249, 2, 0)]
def bn1833 : e2_Q7 := (bn407, bn1440)
def bn1834 : e2_Q8 := (bn1414, bn1833)
noncomputable def f_b355 : ev_H := (bn1834 : e2_Q8)
def bn1835 : e2_Q7 := (bn407, bn1445)
def bn1836 : e2_Q8 := (bn1824, bn1835)
noncomputable def q_b355_0 : ev_H := (bn1836 : e2_Q8)
noncomputable def rs_b355 : e2_Rs := [((9, 0, 0), q_b355_0)]
noncomputable def s_b355 : e2_Sm := (196, as_b355, E_b355, f_b355, rs_b355)
noncomputable def S_b355 : List e2_Sm := [s_b38, s_b185, s_b234, s_b268, s_b271, s_b273, s_b354]
noncomputable def I_b355 : List e2_In := [(179, 3, e2x_179)]
set_option maxRecDepth 1000000 in
theorem ck_b355 : e2_run (e2_cal S_b355 I_b355 4000 1) (e2_fin rs_b355) e2x_196 (fun _ => false) (fun _ _ _ _ _ => false) 4000 (e2_seek e2x_196 0) (e2_al 2 as_b355) [] E_b355 f_b355 = true := by decide +kernel
set_option maxRecDepth 1000000 in
theorem co_b355 : e2_okSB E_b355.length as_b355 f_b355 rs_b355 = true := by decide +kernel
theorem cs_b355 (hen : en_ok) (l : Launch) (hh : e2_hand_b l) : e2_smOk l 62 s_b355 := e2_con0 (H := 60) (n := 1) (C := evd_196) (S := S_b355) (I := I_b355) (fuel := 4000) [] hen ei_196 (e2_fa (hh _ hm_b38) (e2_fa ((cs_b185 hen l).mono (by decide)) (e2_fa ((cs_b234 hen l).mono (by decide)) (e2_fa ((cs_b268 hen l).mono (by decide)) (e2_fa ((cs_b271 hen l).mono (by decide)) (e2_fa ((cs_b273 hen l).mono (by decide)) (e2_fa ((cs_b354 hen l).mono (by decide)) e2_fz))))))) (e2_fa ein_179 e2_fz) (by decide) co_b355 ex2_196 ck_b355
/-! b356 X10_glyphHere -/
def as_b356 : List ev_V := [(2, 83, 0)]
def E_b356 : e2_E := [(2147483648, 2147583648, 0, 0), (2147483648, 2147483656, 1, 0), (2147483648, 2147485249, 2, 0)]
def bn1837 : e2_Q8 := (bn1814, bn1146)
noncomputable def f_b356 : ev_H := (bn1837 : e2_Q8)
noncomputable def q_b356_0 : ev_H := (bn1837 : e2_Q8)
noncomputable def rs_b356 : e2_Rs := [((0, 4294967295, 0), q_b356_0)]
noncomputable def s_b356 : e2_Sm := (190, as_b356, E_b356, f_b356, rs_b356)
noncomputable def S_b356 : List e2_Sm := [s_b276]
noncomputable def I_b356 : List e2_In := []
set_option maxRecDepth 1000000 in
theorem ck_b356 : e2_run (e2_cal S_b356 I_b356 4000 0) (e2_fin rs_b356) e2x_190 (fun _ => false) (fun _ _ _ _ _ => false) 4000 (e2_seek e2x_190 0) (e2_al 1 as_b356) [] E_b356 f_b356 = true := by decide +kernel
set_option maxRecDepth 1000000 in
theorem co_b356 : e2_okSB E_b356.length as_b356 f_b356 rs_b356 = true := by decide +kernel
theorem cs_b356 (hen : en_ok) (l : Launch) : e2_smOk l 2 s_b356 := e2_con0 (H := 1) (n := 0) (C := evd_190) (S := S_b356) (I := I_b356) (fuel := 4000) [] hen ei_190 (e2_fa (cs_b276 hen l) e2_fz) e2_fz (by decide) co_b356 ex2_190 ck_b356
/-! b357 X10_readGlyph -/
def as_b357 : List ev_V := [(2, 83, 0)]
def E_b357 : e2_E := [(2147483648, 2147583648, 0, 0), (2147483648, 2147483656, 1, 0), (2147483648, 2147485249, 2, 0)]
def bn1838 : e2_Q7 := (bn407, bn1454)
def bn1839 : e2_Q8 := (bn1414, bn1838)
noncomputable def f_b357 : ev_H := (bn1839 : e2_Q8)
def bn1840 : e2_Q7 := (bn407, bn1459)
def bn1841 : e2_Q8 := (bn1824, bn1840)
noncomputable def q_b357_0 : ev_H := (bn1841 : e2_Q8)
noncomputable def rs_b357 : e2_Rs := [((9, 0, 0), q_b357_0)]
noncomputable def s_b357 : e2_Sm := (196, as_b357, E_b357, f_b357, rs_b357)
noncomputable def S_b357 : List e2_Sm := [s_b36, s_b178, s_b232, s_b275, s_b278, s_b280, s_b356]
noncomputable def I_b357 : List e2_In := [(179, 3, e2x_179)]
set_option maxRecDepth 1000000 in
theorem ck_b357 : e2_run (e2_cal S_b357 I_b357 4000 1) (e2_fin rs_b357) e2x_196 (fun _ => false) (fun _ _ _ _ _ => false) 4000 (e2_seek e2x_196 0) (e2_al 2 as_b357) [] E_b357 f_b357 = true := by decide +kernel
set_option maxRecDepth 1000000 in
theorem co_b357 : e2_okSB E_b357.length as_b357 f_b357 rs_b357 = true := by decide +kernel
theorem cs_b357 (hen : en_ok) (l : Launch) (hh : e2_hand_b l) : e2_smOk l 62 s_b357 := e2_con0 (H := 60) (n := 1) (C := evd_196) (S := S_b357) (I := I_b357) (fuel := 4000) [] hen ei_196 (e2_fa (hh _ hm_b36) (e2_fa ((cs_b178 hen l).mono (by decide)) (e2_fa ((cs_b232 hen l).mono (by decide)) (e2_fa ((cs_b275 hen l).mono (by decide)) (e2_fa ((cs_b278 hen l).mono (by decide)) (e2_fa ((cs_b280 hen l).mono (by decide)) (e2_fa ((cs_b356 hen l).mono (by decide)) e2_fz))))))) (e2_fa ein_179 e2_fz) (by decide) co_b357 ex2_196 ck_b357
/-! b358 X10_glyphHere -/
def as_b358 : List ev_V := [(2, 83, 0)]
def E_b358 : e2_E := [(2147483648, 2147583648, 0, 0), (2147483648, 2147483656, 1, 0), (2147483648, 2147485249, 2, 0)]
def bn1842 : e2_Q7 := (bn1813, bn1463)
def bn1843 : e2_Q8 := (bn1842, bn1150)
noncomputable def f_b358 : ev_H := (bn1843 : e2_Q8)
noncomputable def q_b358_0 : ev_H := (bn1843 : e2_Q8)
noncomputable def rs_b358 : e2_Rs := [((11, 2147483647, 2147483655), q_b358_0)]
noncomputable def s_b358 : e2_Sm := (190, as_b358, E_b358, f_b358, rs_b358)
noncomputable def S_b358 : List e2_Sm := [s_b283]
noncomputable def I_b358 : List e2_In := []
set_option maxRecDepth 1000000 in
theorem ck_b358 : e2_run (e2_cal S_b358 I_b358 4000 0) (e2_fin rs_b358) e2x_190 (fun _ => false) (fun _ _ _ _ _ => false) 4000 (e2_seek e2x_190 0) (e2_al 1 as_b358) [] E_b358 f_b358 = true := by decide +kernel
set_option maxRecDepth 1000000 in
theorem co_b358 : e2_okSB E_b358.length as_b358 f_b358 rs_b358 = true := by decide +kernel
theorem cs_b358 (hen : en_ok) (l : Launch) : e2_smOk l 2 s_b358 := e2_con0 (H := 1) (n := 0) (C := evd_190) (S := S_b358) (I := I_b358) (fuel := 4000) [] hen ei_190 (e2_fa (cs_b283 hen l) e2_fz) e2_fz (by decide) co_b358 ex2_190 ck_b358
/-! b359 X10_readGlyph -/
def as_b359 : List ev_V := [(2, 83, 0)]
def E_b359 : e2_E := [(2147483648, 2147583648, 0, 0), (2147483648, 2147483656, 1, 0), (2147483648, 2147485249, 2, 0)]
def bn1844 : e2_Q7 := (bn1528, bn1524)
def bn1845 : e2_Q8 := (bn1414, bn1844)
noncomputable def f_b359 : ev_H := (bn1845 : e2_Q8)
def bn1846 : e2_Q5 := (bn483, bn1488)
def bn1847 : e2_Q6 := (bn1846, bn356)
def bn1848 : e2_Q7 := (bn1847, bn1531)
def bn1849 : e2_Q8 := (bn1824, bn1848)
noncomputable def q_b359_0 : ev_H := (bn1849 : e2_Q8)
def bn1850 : e2_Q7 := (bn1528, bn1536)
def bn1851 : e2_Q8 := (bn1824, bn1850)
noncomputable def q_b359_1 : ev_H := (bn1851 : e2_Q8)
def bn1852 : e2_Q7 := (bn1847, bn1541)
def bn1853 : e2_Q8 := (bn1824, bn1852)
noncomputable def q_b359_2 : ev_H := (bn1853 : e2_Q8)
def bn1854 : e2_Q7 := (bn1847, bn1546)
def bn1855 : e2_Q8 := (bn1824, bn1854)
noncomputable def q_b359_3 : ev_H := (bn1855 : e2_Q8)
def bn1856 : e2_Q7 := (bn1847, bn1551)
def bn1857 : e2_Q8 := (bn1824, bn1856)
noncomputable def q_b359_4 : ev_H := (bn1857 : e2_Q8)
def bn1858 : e2_Q7 := (bn1847, bn1556)
def bn1859 : e2_Q8 := (bn1824, bn1858)
noncomputable def q_b359_5 : ev_H := (bn1859 : e2_Q8)
def bn1860 : e2_Q7 := (bn1847, bn1561)
def bn1861 : e2_Q8 := (bn1824, bn1860)
noncomputable def q_b359_6 : ev_H := (bn1861 : e2_Q8)
def bn1862 : e2_Q7 := (bn1847, bn1566)
def bn1863 : e2_Q8 := (bn1824, bn1862)
noncomputable def q_b359_7 : ev_H := (bn1863 : e2_Q8)
def bn1864 : e2_Q7 := (bn1847, bn1417)
def bn1865 : e2_Q8 := (bn1824, bn1864)
noncomputable def q_b359_8 : ev_H := (bn1865 : e2_Q8)
def bn1866 : e2_Q7 := (bn1847, bn1459)
def bn1867 : e2_Q8 := (bn1824, bn1866)
noncomputable def q_b359_9 : ev_H := (bn1867 : e2_Q8)
def bn1868 : e2_Q7 := (bn1528, bn1575)
def bn1869 : e2_Q8 := (bn1824, bn1868)
noncomputable def q_b359_10 : ev_H := (bn1869 : e2_Q8)
noncomputable def rs_b359 : e2_Rs := [((9, 0, 0), q_b359_0), ((9, 0, 0), q_b359_1), ((9, 0, 0), q_b359_2), ((9, 0, 0), q_b359_3), ((9, 0, 0), q_b359_4), ((9, 0, 0), q_b359_5), ((9, 0, 0), q_b359_6), ((9, 0, 0), q_b359_7), ((9, 0, 0), q_b359_8), ((9, 0, 0), q_b359_9), ((9, 0, 0), q_b359_10)]
noncomputable def s_b359 : e2_Sm := (196, as_b359, E_b359, f_b359, rs_b359)
noncomputable def S_b359 : List e2_Sm := [s_b39, s_b40, s_b41, s_b42, s_b43, s_b44, s_b181, s_b183, s_b184, s_b186, s_b188, s_b190, s_b191, s_b192, s_b232, s_b233, s_b235, s_b236, s_b237, s_b238, s_b239, s_b240, s_b241, s_b242, s_b243, s_b244, s_b257, s_b259, s_b278, s_b280, s_b282, s_b285, s_b286, s_b287, s_b288, s_b289, s_b290, s_b291, s_b292, s_b293, s_b294, s_b295, s_b297, s_b299, s_b301, s_b303, s_b305, s_b307, s_b309, s_b311, s_b313, s_b315, s_b358]
noncomputable def I_b359 : List e2_In := [(179, 3, e2x_179)]
set_option maxRecDepth 1000000 in
theorem ck_b359 : e2_run (e2_cal S_b359 I_b359 4000 1) (e2_fin rs_b359) e2x_196 (fun _ => false) (fun _ _ _ _ _ => false) 4000 (e2_seek e2x_196 0) (e2_al 2 as_b359) [] E_b359 f_b359 = true := by decide +kernel
set_option maxRecDepth 1000000 in
theorem co_b359 : e2_okSB E_b359.length as_b359 f_b359 rs_b359 = true := by decide +kernel
theorem cs_b359 (hen : en_ok) (l : Launch) (hh : e2_hand_b l) : e2_smOk l 62 s_b359 := e2_con0 (H := 60) (n := 1) (C := evd_196) (S := S_b359) (I := I_b359) (fuel := 4000) [] hen ei_196 (e2_fa (hh _ hm_b39) (e2_fa (hh _ hm_b40) (e2_fa (hh _ hm_b41) (e2_fa (hh _ hm_b42) (e2_fa (hh _ hm_b43) (e2_fa (hh _ hm_b44) (e2_fa ((cs_b181 hen l).mono (by decide)) (e2_fa ((cs_b183 hen l).mono (by decide)) (e2_fa ((cs_b184 hen l).mono (by decide)) (e2_fa ((cs_b186 hen l).mono (by decide)) (e2_fa ((cs_b188 hen l).mono (by decide)) (e2_fa ((cs_b190 hen l).mono (by decide)) (e2_fa ((cs_b191 hen l).mono (by decide)) (e2_fa ((cs_b192 hen l).mono (by decide)) (e2_fa ((cs_b232 hen l).mono (by decide)) (e2_fa ((cs_b233 hen l).mono (by decide)) (e2_fa ((cs_b235 hen l).mono (by decide)) (e2_fa ((cs_b236 hen l).mono (by decide)) (e2_fa ((cs_b237 hen l).mono (by decide)) (e2_fa ((cs_b238 hen l).mono (by decide)) (e2_fa ((cs_b239 hen l).mono (by decide)) (e2_fa ((cs_b240 hen l).mono (by decide)) (e2_fa ((cs_b241 hen l).mono (by decide)) (e2_fa ((cs_b242 hen l).mono (by decide)) (e2_fa ((cs_b243 hen l).mono (by decide)) (e2_fa ((cs_b244 hen l).mono (by decide)) (e2_fa ((cs_b257 hen l).mono (by decide)) (e2_fa ((cs_b259 hen l).mono (by decide)) (e2_fa ((cs_b278 hen l).mono (by decide)) (e2_fa ((cs_b280 hen l).mono (by decide)) (e2_fa ((cs_b282 hen l).mono (by decide)) (e2_fa ((cs_b285 hen l).mono (by decide)) (e2_fa ((cs_b286 hen l).mono (by decide)) (e2_fa ((cs_b287 hen l).mono (by decide)) (e2_fa ((cs_b288 hen l).mono (by decide)) (e2_fa ((cs_b289 hen l).mono (by decide)) (e2_fa ((cs_b290 hen l).mono (by decide)) (e2_fa ((cs_b291 hen l).mono (by decide)) (e2_fa ((cs_b292 hen l).mono (by decide)) (e2_fa ((cs_b293 hen l).mono (by decide)) (e2_fa ((cs_b294 hen l).mono (by decide)) (e2_fa ((cs_b295 hen l).mono (by decide)) (e2_fa ((cs_b297 hen l).mono (by decide)) (e2_fa ((cs_b299 hen l).mono (by decide)) (e2_fa ((cs_b301 hen l).mono (by decide)) (e2_fa ((cs_b303 hen l).mono (by decide)) (e2_fa ((cs_b305 hen l).mono (by decide)) (e2_fa ((cs_b307 hen l).mono (by decide)) (e2_fa ((cs_b309 hen l).mono (by decide)) (e2_fa ((cs_b311 hen l).mono (by decide)) (e2_fa ((cs_b313 hen l).mono (by decide)) (e2_fa ((cs_b315 hen l).mono (by decide)) (e2_fa ((cs_b358 hen l).mono (by decide)) e2_fz))))))))))))))))))))))))))))))))))))))))))))))))))))) (e2_fa ein_179 e2_fz) (by decide) co_b359 ex2_196 ck_b359
/-! b360 X10_readNever -/
def as_b360 : List ev_V := [(2, 83, 0)]
def E_b360 : e2_E := [(2147483648, 2147583648, 0, 0), (2147483648, 2147483656, 1, 0), (2147483648, 2147485249, 2, 0)]
noncomputable def f_b360 : ev_H := (bn1815 : e2_Q8)
def bn1870 : e2_Q8 := (bn1814, bn1084)
noncomputable def q_b360_0 : ev_H := (bn1870 : e2_Q8)
noncomputable def rs_b360 : e2_Rs := [((9, 0, 0), q_b360_0)]
noncomputable def s_b360 : e2_Sm := (197, as_b360, E_b360, f_b360, rs_b360)
noncomputable def S_b360 : List e2_Sm := [s_b285, s_b350]
noncomputable def I_b360 : List e2_In := [(174, 1, e2x_174)]
set_option maxRecDepth 1000000 in
theorem ck_b360 : e2_run (e2_cal S_b360 I_b360 4000 1) (e2_fin rs_b360) e2x_197 (fun _ => false) (fun _ _ _ _ _ => false) 4000 (e2_seek e2x_197 0) (e2_al 3 as_b360) [] E_b360 f_b360 = true := by decide +kernel
set_option maxRecDepth 1000000 in
theorem co_b360 : e2_okSB E_b360.length as_b360 f_b360 rs_b360 = true := by decide +kernel
theorem cs_b360 (hen : en_ok) (l : Launch) : e2_smOk l 5 s_b360 := e2_con0 (H := 3) (n := 1) (C := evd_197) (S := S_b360) (I := I_b360) (fuel := 4000) [] hen ei_197 (e2_fa (cs_b285 hen l) (e2_fa ((cs_b350 hen l).mono (by decide)) e2_fz)) (e2_fa ein_174 e2_fz) (by decide) co_b360 ex2_197 ck_b360
/-! b361 X10_readNever -/
def as_b361 : List ev_V := [(2, 83, 0)]
def E_b361 : e2_E := [(2147483648, 2147583648, 0, 0), (2147483648, 2147483656, 1, 0), (2147483648, 2147485249, 2, 0)]
noncomputable def f_b361 : ev_H := (bn1827 : e2_Q8)
def bn1871 : e2_Q8 := (bn1814, bn1090)
noncomputable def q_b361_0 : ev_H := (bn1871 : e2_Q8)
noncomputable def rs_b361 : e2_Rs := [((9, 0, 0), q_b361_0)]
noncomputable def s_b361 : e2_Sm := (197, as_b361, E_b361, f_b361, rs_b361)
noncomputable def S_b361 : List e2_Sm := [s_b318, s_b352]
noncomputable def I_b361 : List e2_In := [(174, 1, e2x_174)]
set_option maxRecDepth 1000000 in
theorem ck_b361 : e2_run (e2_cal S_b361 I_b361 4000 1) (e2_fin rs_b361) e2x_197 (fun _ => false) (fun _ _ _ _ _ => false) 4000 (e2_seek e2x_197 0) (e2_al 3 as_b361) [] E_b361 f_b361 = true := by decide +kernel
set_option maxRecDepth 1000000 in
theorem co_b361 : e2_okSB E_b361.length as_b361 f_b361 rs_b361 = true := by decide +kernel
theorem cs_b361 (hen : en_ok) (l : Launch) : e2_smOk l 5 s_b361 := e2_con0 (H := 3) (n := 1) (C := evd_197) (S := S_b361) (I := I_b361) (fuel := 4000) [] hen ei_197 (e2_fa (cs_b318 hen l) (e2_fa ((cs_b352 hen l).mono (by decide)) e2_fz)) (e2_fa ein_174 e2_fz) (by decide) co_b361 ex2_197 ck_b361
/-! b362 X10_readNever -/
def as_b362 : List ev_V := [(2, 83, 0)]
def E_b362 : e2_E := [(2147483648, 2147583648, 0, 0), (2147483648, 2147483656, 1, 0), (2147483648, 2147485249, 2, 0)]
noncomputable def f_b362 : ev_H := (bn1832 : e2_Q8)
def bn1872 : e2_Q8 := (bn1814, bn1096)
noncomputable def q_b362_0 : ev_H := (bn1872 : e2_Q8)
noncomputable def rs_b362 : e2_Rs := [((9, 0, 0), q_b362_0)]
noncomputable def s_b362 : e2_Sm := (197, as_b362, E_b362, f_b362, rs_b362)
noncomputable def S_b362 : List e2_Sm := [s_b320, s_b354]
noncomputable def I_b362 : List e2_In := [(174, 1, e2x_174)]
set_option maxRecDepth 1000000 in
theorem ck_b362 : e2_run (e2_cal S_b362 I_b362 4000 1) (e2_fin rs_b362) e2x_197 (fun _ => false) (fun _ _ _ _ _ => false) 4000 (e2_seek e2x_197 0) (e2_al 3 as_b362) [] E_b362 f_b362 = true := by decide +kernel
set_option maxRecDepth 1000000 in
theorem co_b362 : e2_okSB E_b362.length as_b362 f_b362 rs_b362 = true := by decide +kernel
theorem cs_b362 (hen : en_ok) (l : Launch) : e2_smOk l 5 s_b362 := e2_con0 (H := 3) (n := 1) (C := evd_197) (S := S_b362) (I := I_b362) (fuel := 4000) [] hen ei_197 (e2_fa (cs_b320 hen l) (e2_fa ((cs_b354 hen l).mono (by decide)) e2_fz)) (e2_fa ein_174 e2_fz) (by decide) co_b362 ex2_197 ck_b362
/-! b363 X10_readNever -/
def as_b363 : List ev_V := [(2, 83, 0)]
def E_b363 : e2_E := [(2147483648, 2147583648, 0, 0), (2147483648, 2147483656, 1, 0), (2147483648, 2147485249, 2, 0)]
noncomputable def f_b363 : ev_H := (bn1837 : e2_Q8)
def bn1873 : e2_Q8 := (bn1814, bn1082)
noncomputable def q_b363_0 : ev_H := (bn1873 : e2_Q8)
noncomputable def rs_b363 : e2_Rs := [((9, 0, 0), q_b363_0)]
noncomputable def s_b363 : e2_Sm := (197, as_b363, E_b363, f_b363, rs_b363)
noncomputable def S_b363 : List e2_Sm := [s_b288, s_b356]
noncomputable def I_b363 : List e2_In := [(174, 1, e2x_174)]
set_option maxRecDepth 1000000 in
theorem ck_b363 : e2_run (e2_cal S_b363 I_b363 4000 1) (e2_fin rs_b363) e2x_197 (fun _ => false) (fun _ _ _ _ _ => false) 4000 (e2_seek e2x_197 0) (e2_al 3 as_b363) [] E_b363 f_b363 = true := by decide +kernel
set_option maxRecDepth 1000000 in
theorem co_b363 : e2_okSB E_b363.length as_b363 f_b363 rs_b363 = true := by decide +kernel
theorem cs_b363 (hen : en_ok) (l : Launch) : e2_smOk l 5 s_b363 := e2_con0 (H := 3) (n := 1) (C := evd_197) (S := S_b363) (I := I_b363) (fuel := 4000) [] hen ei_197 (e2_fa (cs_b288 hen l) (e2_fa ((cs_b356 hen l).mono (by decide)) e2_fz)) (e2_fa ein_174 e2_fz) (by decide) co_b363 ex2_197 ck_b363
/-! b364 X10_glyphHere -/
def as_b364 : List ev_V := [(2, 83, 0)]
def E_b364 : e2_E := [(2147483648, 2147583648, 0, 0), (2147483648, 2147483656, 1, 0), (2147483648, 2147485249, 2, 0)]
def bn1874 : e2_Q8 := (bn1814, bn1152)
noncomputable def f_b364 : ev_H := (bn1874 : e2_Q8)
noncomputable def q_b364_0 : ev_H := (bn1874 : e2_Q8)
noncomputable def rs_b364 : e2_Rs := [((0, 4294967295, 0), q_b364_0)]
noncomputable def s_b364 : e2_Sm := (190, as_b364, E_b364, f_b364, rs_b364)
noncomputable def S_b364 : List e2_Sm := [s_b323]
noncomputable def I_b364 : List e2_In := []
set_option maxRecDepth 1000000 in
theorem ck_b364 : e2_run (e2_cal S_b364 I_b364 4000 0) (e2_fin rs_b364) e2x_190 (fun _ => false) (fun _ _ _ _ _ => false) 4000 (e2_seek e2x_190 0) (e2_al 1 as_b364) [] E_b364 f_b364 = true := by decide +kernel
set_option maxRecDepth 1000000 in
theorem co_b364 : e2_okSB E_b364.length as_b364 f_b364 rs_b364 = true := by decide +kernel
theorem cs_b364 (hen : en_ok) (l : Launch) : e2_smOk l 2 s_b364 := e2_con0 (H := 1) (n := 0) (C := evd_190) (S := S_b364) (I := I_b364) (fuel := 4000) [] hen ei_190 (e2_fa (cs_b323 hen l) e2_fz) e2_fz (by decide) co_b364 ex2_190 ck_b364
/-! b365 X10_glyphHere -/
def as_b365 : List ev_V := [(2, 83, 0)]
def E_b365 : e2_E := [(2147483648, 2147583648, 0, 0), (2147483648, 2147483656, 1, 0), (2147483648, 2147485249, 2, 0)]
def bn1875 : e2_Q8 := (bn1814, bn1198)
noncomputable def f_b365 : ev_H := (bn1875 : e2_Q8)
noncomputable def q_b365_0 : ev_H := (bn1875 : e2_Q8)
noncomputable def rs_b365 : e2_Rs := [((0, 4294967295, 0), q_b365_0)]
noncomputable def s_b365 : e2_Sm := (190, as_b365, E_b365, f_b365, rs_b365)
noncomputable def S_b365 : List e2_Sm := [s_b325]
noncomputable def I_b365 : List e2_In := []
set_option maxRecDepth 1000000 in
theorem ck_b365 : e2_run (e2_cal S_b365 I_b365 4000 0) (e2_fin rs_b365) e2x_190 (fun _ => false) (fun _ _ _ _ _ => false) 4000 (e2_seek e2x_190 0) (e2_al 1 as_b365) [] E_b365 f_b365 = true := by decide +kernel
set_option maxRecDepth 1000000 in
theorem co_b365 : e2_okSB E_b365.length as_b365 f_b365 rs_b365 = true := by decide +kernel
theorem cs_b365 (hen : en_ok) (l : Launch) : e2_smOk l 2 s_b365 := e2_con0 (H := 1) (n := 0) (C := evd_190) (S := S_b365) (I := I_b365) (fuel := 4000) [] hen ei_190 (e2_fa (cs_b325 hen l) e2_fz) e2_fz (by decide) co_b365 ex2_190 ck_b365
/-! b366 X10_readNever -/
def as_b366 : List ev_V := [(2, 83, 0)]
def E_b366 : e2_E := [(2147483648, 2147583648, 0, 0), (2147483648, 2147483656, 1, 0), (2147483648, 2147485249, 2, 0)]
def bn1876 : e2_Q6 := (bn1812, bn1584)
def bn1877 : e2_Q7 := (bn1876, bn1463)
def bn1878 : e2_Q8 := (bn1877, bn1588)
noncomputable def f_b366 : ev_H := (bn1878 : e2_Q8)
def bn1879 : e2_Q8 := (bn1877, bn1590)
noncomputable def q_b366_0 : ev_H := (bn1879 : e2_Q8)
def bn1880 : e2_Q8 := (bn1877, bn1592)
noncomputable def q_b366_1 : ev_H := (bn1880 : e2_Q8)
def bn1881 : e2_Q8 := (bn1877, bn1594)
noncomputable def q_b366_2 : ev_H := (bn1881 : e2_Q8)
def bn1882 : e2_Q8 := (bn1877, bn1596)
noncomputable def q_b366_3 : ev_H := (bn1882 : e2_Q8)
def bn1883 : e2_Q8 := (bn1877, bn1598)
noncomputable def q_b366_4 : ev_H := (bn1883 : e2_Q8)
def bn1884 : e2_Q8 := (bn1877, bn1600)
noncomputable def q_b366_5 : ev_H := (bn1884 : e2_Q8)
def bn1885 : e2_Q8 := (bn1877, bn1602)
noncomputable def q_b366_6 : ev_H := (bn1885 : e2_Q8)
def bn1886 : e2_Q8 := (bn1877, bn1604)
noncomputable def q_b366_7 : ev_H := (bn1886 : e2_Q8)
def bn1887 : e2_Q8 := (bn1877, bn1606)
noncomputable def q_b366_8 : ev_H := (bn1887 : e2_Q8)
def bn1888 : e2_Q8 := (bn1877, bn1608)
noncomputable def q_b366_9 : ev_H := (bn1888 : e2_Q8)
noncomputable def rs_b366 : e2_Rs := [((9, 0, 0), q_b366_0), ((9, 0, 0), q_b366_1), ((9, 0, 0), q_b366_2), ((9, 0, 0), q_b366_3), ((9, 0, 0), q_b366_4), ((9, 0, 0), q_b366_5), ((9, 0, 0), q_b366_6), ((9, 0, 0), q_b366_7), ((9, 0, 0), q_b366_8), ((9, 0, 0), q_b366_9)]
noncomputable def s_b366 : e2_Sm := (197, as_b366, E_b366, f_b366, rs_b366)
noncomputable def S_b366 : List e2_Sm := [s_b285, s_b286, s_b287, s_b288, s_b327, s_b328, s_b329, s_b330, s_b350, s_b356, s_b358, s_b364, s_b365]
noncomputable def I_b366 : List e2_In := [(173, 3, e2x_173), (174, 1, e2x_174)]
set_option maxRecDepth 1000000 in
theorem ck_b366 : e2_run (e2_cal S_b366 I_b366 4000 1) (e2_fin rs_b366) e2x_197 (fun _ => false) (fun _ _ _ _ _ => false) 4000 (e2_seek e2x_197 0) (e2_al 3 as_b366) [] E_b366 f_b366 = true := by decide +kernel
set_option maxRecDepth 1000000 in
theorem co_b366 : e2_okSB E_b366.length as_b366 f_b366 rs_b366 = true := by decide +kernel
theorem cs_b366 (hen : en_ok) (l : Launch) : e2_smOk l 8 s_b366 := e2_con0 (H := 6) (n := 1) (C := evd_197) (S := S_b366) (I := I_b366) (fuel := 4000) [] hen ei_197 (e2_fa ((cs_b285 hen l).mono (by decide)) (e2_fa ((cs_b286 hen l).mono (by decide)) (e2_fa ((cs_b287 hen l).mono (by decide)) (e2_fa ((cs_b288 hen l).mono (by decide)) (e2_fa ((cs_b327 hen l).mono (by decide)) (e2_fa (cs_b328 hen l) (e2_fa (cs_b329 hen l) (e2_fa ((cs_b330 hen l).mono (by decide)) (e2_fa ((cs_b350 hen l).mono (by decide)) (e2_fa ((cs_b356 hen l).mono (by decide)) (e2_fa ((cs_b358 hen l).mono (by decide)) (e2_fa ((cs_b364 hen l).mono (by decide)) (e2_fa ((cs_b365 hen l).mono (by decide)) e2_fz))))))))))))) (e2_fa ein_173 (e2_fa ein_174 e2_fz)) (by decide) co_b366 ex2_197 ck_b366
/-! b367 X10_readLine -/
def as_b367 : List ev_V := [(2, 83, 0)]
def E_b367 : e2_E := [(2147483648, 2147583648, 0, 0), (2147483648, 2147483656, 1, 0), (2147483648, 2147485249, 2, 0)]
def bn1889 : e2_Q7 := (bn1796, bn1735)
def bn1890 : e2_Q8 := (bn1790, bn1889)
noncomputable def f_b367 : ev_H := (bn1890 : e2_Q8)
def bn1891 : e2_Q7 := (bn1796, bn1743)
def bn1892 : e2_Q8 := (bn1790, bn1891)
noncomputable def q_b367_0 : ev_H := (bn1892 : e2_Q8)
def bn1893 : e2_Q7 := (bn1796, bn1748)
def bn1894 : e2_Q8 := (bn1790, bn1893)
noncomputable def q_b367_1 : ev_H := (bn1894 : e2_Q8)
def bn1895 : e2_Q7 := (bn1796, bn1752)
def bn1896 : e2_Q8 := (bn1790, bn1895)
noncomputable def q_b367_2 : ev_H := (bn1896 : e2_Q8)
def bn1897 : e2_Q7 := (bn1796, bn1756)
def bn1898 : e2_Q8 := (bn1790, bn1897)
noncomputable def q_b367_3 : ev_H := (bn1898 : e2_Q8)
noncomputable def q_b367_4 : ev_H := (bn1798 : e2_Q8)
noncomputable def q_b367_5 : ev_H := (bn1800 : e2_Q8)
noncomputable def q_b367_6 : ev_H := (bn1802 : e2_Q8)
noncomputable def q_b367_7 : ev_H := (bn1804 : e2_Q8)
noncomputable def q_b367_8 : ev_H := (bn1806 : e2_Q8)
def bn1899 : e2_Q7 := (bn1796, bn1780)
def bn1900 : e2_Q8 := (bn1790, bn1899)
noncomputable def q_b367_9 : ev_H := (bn1900 : e2_Q8)
def bn1901 : e2_Q7 := (bn1796, bn1784)
def bn1902 : e2_Q8 := (bn1790, bn1901)
noncomputable def q_b367_10 : ev_H := (bn1902 : e2_Q8)
def bn1903 : e2_Q4 := (bn747, bn1820)
def bn1904 : e2_Q5 := (bn329, bn1903)
def bn1905 : e2_Q6 := (bn1904, bn1717)
def bn1906 : e2_Q7 := (bn1905, bn1724)
def bn1907 : e2_Q8 := (bn1906, bn1893)
noncomputable def q_b367_11 : ev_H := (bn1907 : e2_Q8)
def bn1908 : e2_Q8 := (bn1906, bn1895)
noncomputable def q_b367_12 : ev_H := (bn1908 : e2_Q8)
def bn1909 : e2_Q8 := (bn1906, bn1899)
noncomputable def q_b367_13 : ev_H := (bn1909 : e2_Q8)
def bn1910 : e2_Q8 := (bn1906, bn1901)
noncomputable def q_b367_14 : ev_H := (bn1910 : e2_Q8)
def bn1911 : e2_Q5 := (bn483, bn1726)
def bn1912 : e2_Q6 := (bn1911, bn1729)
def bn1913 : e2_Q7 := (bn1912, bn1760)
def bn1914 : e2_Q8 := (bn1906, bn1913)
noncomputable def q_b367_15 : ev_H := (bn1914 : e2_Q8)
def bn1915 : e2_Q7 := (bn1912, bn1764)
def bn1916 : e2_Q8 := (bn1906, bn1915)
noncomputable def q_b367_16 : ev_H := (bn1916 : e2_Q8)
def bn1917 : e2_Q7 := (bn1912, bn1768)
def bn1918 : e2_Q8 := (bn1906, bn1917)
noncomputable def q_b367_17 : ev_H := (bn1918 : e2_Q8)
def bn1919 : e2_Q7 := (bn1912, bn1772)
def bn1920 : e2_Q8 := (bn1906, bn1919)
noncomputable def q_b367_18 : ev_H := (bn1920 : e2_Q8)
def bn1921 : e2_Q7 := (bn1912, bn1776)
def bn1922 : e2_Q8 := (bn1906, bn1921)
noncomputable def q_b367_19 : ev_H := (bn1922 : e2_Q8)
def bn1923 : e2_Q7 := (bn1796, bn1808)
def bn1924 : e2_Q8 := (bn1906, bn1923)
noncomputable def q_b367_20 : ev_H := (bn1924 : e2_Q8)
def bn1925 : e2_Q8 := (bn1906, bn1897)
noncomputable def q_b367_21 : ev_H := (bn1925 : e2_Q8)
noncomputable def rs_b367 : e2_Rs := [((9, 0, 0), q_b367_0), ((9, 0, 0), q_b367_1), ((9, 0, 0), q_b367_2), ((9, 0, 0), q_b367_3), ((9, 0, 0), q_b367_4), ((9, 0, 0), q_b367_5), ((9, 0, 0), q_b367_6), ((9, 0, 0), q_b367_7), ((9, 0, 0), q_b367_8), ((9, 0, 0), q_b367_9), ((9, 0, 0), q_b367_10), ((9, 0, 0), q_b367_11), ((9, 0, 0), q_b367_12), ((9, 0, 0), q_b367_13), ((9, 0, 0), q_b367_14), ((9, 0, 0), q_b367_15), ((9, 0, 0), q_b367_16), ((9, 0, 0), q_b367_17), ((9, 0, 0), q_b367_18), ((9, 0, 0), q_b367_19), ((9, 0, 0), q_b367_20), ((9, 0, 0), q_b367_21)]
noncomputable def s_b367 : e2_Sm := (187, as_b367, E_b367, f_b367, rs_b367)
noncomputable def S_b367 : List e2_Sm := [s_b173, s_b178, s_b179, s_b180, s_b181, s_b182, s_b183, s_b184, s_b185, s_b186, s_b187, s_b188, s_b189, s_b190, s_b191, s_b192, s_b193, s_b194, s_b195, s_b196, s_b197, s_b198, s_b199, s_b217, s_b218, s_b219, s_b220, s_b221, s_b249, s_b250, s_b251, s_b252, s_b253, s_b332, s_b333, s_b334, s_b335, s_b336, s_b338, s_b341, s_b344, s_b346, s_b348, s_b351, s_b353, s_b355, s_b357, s_b359, s_b360, s_b361, s_b362, s_b363, s_b366]
noncomputable def I_b367 : List e2_In := [(170, 2, e2x_170), (173, 3, e2x_173), (174, 1, e2x_174), (178, 2, e2x_178), (179, 3, e2x_179), (180, 1, e2x_180), (186, 1, e2x_186)]
set_option maxRecDepth 1000000 in
theorem ck_b367 : e2_run (e2_cal S_b367 I_b367 4000 2) (e2_fin rs_b367) e2x_187 (fun _ => false) (fun _ _ _ _ _ => false) 4000 (e2_seek e2x_187 0) (e2_al 3 as_b367) [] E_b367 f_b367 = true := by decide +kernel
set_option maxRecDepth 1000000 in
theorem co_b367 : e2_okSB E_b367.length as_b367 f_b367 rs_b367 = true := by decide +kernel
theorem cs_b367 (hen : en_ok) (l : Launch) (hh : e2_hand_b l) : e2_smOk l 65 s_b367 := e2_con0 (H := 62) (n := 2) (C := evd_187) (S := S_b367) (I := I_b367) (fuel := 4000) [] hen ei_187 (e2_fa ((cs_b173 hen l).mono (by decide)) (e2_fa ((cs_b178 hen l).mono (by decide)) (e2_fa ((cs_b179 hen l).mono (by decide)) (e2_fa ((cs_b180 hen l).mono (by decide)) (e2_fa ((cs_b181 hen l).mono (by decide)) (e2_fa ((cs_b182 hen l).mono (by decide)) (e2_fa ((cs_b183 hen l).mono (by decide)) (e2_fa ((cs_b184 hen l).mono (by decide)) (e2_fa ((cs_b185 hen l).mono (by decide)) (e2_fa ((cs_b186 hen l).mono (by decide)) (e2_fa ((cs_b187 hen l).mono (by decide)) (e2_fa ((cs_b188 hen l).mono (by decide)) (e2_fa ((cs_b189 hen l).mono (by decide)) (e2_fa ((cs_b190 hen l).mono (by decide)) (e2_fa ((cs_b191 hen l).mono (by decide)) (e2_fa ((cs_b192 hen l).mono (by decide)) (e2_fa ((cs_b193 hen l).mono (by decide)) (e2_fa ((cs_b194 hen l).mono (by decide)) (e2_fa ((cs_b195 hen l).mono (by decide)) (e2_fa ((cs_b196 hen l).mono (by decide)) (e2_fa ((cs_b197 hen l).mono (by decide)) (e2_fa ((cs_b198 hen l).mono (by decide)) (e2_fa ((cs_b199 hen l).mono (by decide)) (e2_fa ((cs_b217 hen l).mono (by decide)) (e2_fa ((cs_b218 hen l).mono (by decide)) (e2_fa ((cs_b219 hen l).mono (by decide)) (e2_fa ((cs_b220 hen l).mono (by decide)) (e2_fa ((cs_b221 hen l).mono (by decide)) (e2_fa ((cs_b249 hen l).mono (by decide)) (e2_fa ((cs_b250 hen l).mono (by decide)) (e2_fa ((cs_b251 hen l).mono (by decide)) (e2_fa ((cs_b252 hen l).mono (by decide)) (e2_fa ((cs_b253 hen l).mono (by decide)) (e2_fa ((cs_b332 hen l hh).mono (by decide)) (e2_fa ((cs_b333 hen l hh).mono (by decide)) (e2_fa ((cs_b334 hen l hh).mono (by decide)) (e2_fa ((cs_b335 hen l hh).mono (by decide)) (e2_fa ((cs_b336 hen l hh).mono (by decide)) (e2_fa ((cs_b338 hen l).mono (by decide)) (e2_fa ((cs_b341 hen l).mono (by decide)) (e2_fa ((cs_b344 hen l).mono (by decide)) (e2_fa ((cs_b346 hen l).mono (by decide)) (e2_fa ((cs_b348 hen l).mono (by decide)) (e2_fa (cs_b351 hen l hh) (e2_fa (cs_b353 hen l hh) (e2_fa (cs_b355 hen l hh) (e2_fa (cs_b357 hen l hh) (e2_fa (cs_b359 hen l hh) (e2_fa ((cs_b360 hen l).mono (by decide)) (e2_fa ((cs_b361 hen l).mono (by decide)) (e2_fa ((cs_b362 hen l).mono (by decide)) (e2_fa ((cs_b363 hen l).mono (by decide)) (e2_fa ((cs_b366 hen l).mono (by decide)) e2_fz))))))))))))))))))))))))))))))))))))))))))))))))))))) (e2_fa ein_170 (e2_fa ein_173 (e2_fa ein_174 (e2_fa ein_178 (e2_fa ein_179 (e2_fa ein_180 (e2_fa ein_186 e2_fz))))))) (by decide) co_b367 ex2_187 ck_b367
/-! b368 X10_glyphHere -/
def as_b368 : List ev_V := [(2, 83, 0)]
def E_b368 : e2_E := [(2147483648, 2147583648, 0, 0), (2147483648, 2147483656, 1, 0), (2147483648, 2147485249, 2, 0)]
def bn1926 : e2_Q5 := (bn14, bn1821)
def bn1927 : e2_Q6 := (bn1926, bn338)
def bn1928 : e2_Q7 := (bn1927, bn345)
def bn1929 : e2_Q8 := (bn1928, bn1098)
noncomputable def f_b368 : ev_H := (bn1929 : e2_Q8)
noncomputable def q_b368_0 : ev_H := (bn1929 : e2_Q8)
noncomputable def rs_b368 : e2_Rs := [((0, 4294967295, 0), q_b368_0)]
noncomputable def s_b368 : e2_Sm := (190, as_b368, E_b368, f_b368, rs_b368)
noncomputable def S_b368 : List e2_Sm := [s_b255]
noncomputable def I_b368 : List e2_In := []
set_option maxRecDepth 1000000 in
theorem ck_b368 : e2_run (e2_cal S_b368 I_b368 4000 0) (e2_fin rs_b368) e2x_190 (fun _ => false) (fun _ _ _ _ _ => false) 4000 (e2_seek e2x_190 0) (e2_al 1 as_b368) [] E_b368 f_b368 = true := by decide +kernel
set_option maxRecDepth 1000000 in
theorem co_b368 : e2_okSB E_b368.length as_b368 f_b368 rs_b368 = true := by decide +kernel
theorem cs_b368 (hen : en_ok) (l : Launch) : e2_smOk l 2 s_b368 := e2_con0 (H := 1) (n := 0) (C := evd_190) (S := S_b368) (I := I_b368) (fuel := 4000) [] hen ei_190 (e2_fa (cs_b255 hen l) e2_fz) e2_fz (by decide) co_b368 ex2_190 ck_b368
/-! b369 X10_readGlyph -/
def as_b369 : List ev_V := [(2, 83, 0)]
def E_b369 : e2_E := [(2147483648, 2147583648, 0, 0), (2147483648, 2147483656, 1, 0), (2147483648, 2147485249, 2, 0)]
def bn1930 : e2_Q7 := (bn485, bn1405)
def bn1931 : e2_Q8 := (bn1824, bn1930)
noncomputable def f_b369 : ev_H := (bn1931 : e2_Q8)
def bc243 : ev_C := (50, [(1, 1, 4294967296), (0, 3, 0)])
def bn1932 : e2_Q1 := (bc243, bc3)
def bn1933 : e2_Q2 := (bn22, bn1932)
def bn1934 : e2_Q3 := (bn1933, bn27)
def bn1935 : e2_Q4 := (bn21, bn1934)
def bn1936 : e2_Q5 := (bn329, bn1935)
def bn1937 : e2_Q6 := (bn1936, bn338)
def bn1938 : e2_Q7 := (bn1937, bn1399)
def bn1939 : e2_Q7 := (bn485, bn1417)
def bn1940 : e2_Q8 := (bn1938, bn1939)
noncomputable def q_b369_0 : ev_H := (bn1940 : e2_Q8)
noncomputable def rs_b369 : e2_Rs := [((9, 0, 0), q_b369_0)]
noncomputable def s_b369 : e2_Sm := (196, as_b369, E_b369, f_b369, rs_b369)
noncomputable def S_b369 : List e2_Sm := [s_b57, s_b179, s_b233, s_b254, s_b257, s_b259, s_b368]
noncomputable def I_b369 : List e2_In := [(179, 3, e2x_179)]
set_option maxRecDepth 1000000 in
theorem ck_b369 : e2_run (e2_cal S_b369 I_b369 4000 1) (e2_fin rs_b369) e2x_196 (fun _ => false) (fun _ _ _ _ _ => false) 4000 (e2_seek e2x_196 0) (e2_al 2 as_b369) [] E_b369 f_b369 = true := by decide +kernel
set_option maxRecDepth 1000000 in
theorem co_b369 : e2_okSB E_b369.length as_b369 f_b369 rs_b369 = true := by decide +kernel
theorem cs_b369 (hen : en_ok) (l : Launch) (hh : e2_hand_b l) : e2_smOk l 62 s_b369 := e2_con0 (H := 60) (n := 1) (C := evd_196) (S := S_b369) (I := I_b369) (fuel := 4000) [] hen ei_196 (e2_fa (hh _ hm_b57) (e2_fa ((cs_b179 hen l).mono (by decide)) (e2_fa ((cs_b233 hen l).mono (by decide)) (e2_fa ((cs_b254 hen l).mono (by decide)) (e2_fa ((cs_b257 hen l).mono (by decide)) (e2_fa ((cs_b259 hen l).mono (by decide)) (e2_fa ((cs_b368 hen l).mono (by decide)) e2_fz))))))) (e2_fa ein_179 e2_fz) (by decide) co_b369 ex2_196 ck_b369
/-! b370 X10_glyphHere -/
def as_b370 : List ev_V := [(2, 83, 0)]
def E_b370 : e2_E := [(2147483648, 2147583648, 0, 0), (2147483648, 2147483656, 1, 0), (2147483648, 2147485249, 2, 0)]
def bn1941 : e2_Q8 := (bn1928, bn1088)
noncomputable def f_b370 : ev_H := (bn1941 : e2_Q8)
noncomputable def q_b370_0 : ev_H := (bn1941 : e2_Q8)
noncomputable def rs_b370 : e2_Rs := [((0, 4294967295, 0), q_b370_0)]
noncomputable def s_b370 : e2_Sm := (190, as_b370, E_b370, f_b370, rs_b370)
noncomputable def S_b370 : List e2_Sm := [s_b262]
noncomputable def I_b370 : List e2_In := []
set_option maxRecDepth 1000000 in
theorem ck_b370 : e2_run (e2_cal S_b370 I_b370 4000 0) (e2_fin rs_b370) e2x_190 (fun _ => false) (fun _ _ _ _ _ => false) 4000 (e2_seek e2x_190 0) (e2_al 1 as_b370) [] E_b370 f_b370 = true := by decide +kernel
set_option maxRecDepth 1000000 in
theorem co_b370 : e2_okSB E_b370.length as_b370 f_b370 rs_b370 = true := by decide +kernel
theorem cs_b370 (hen : en_ok) (l : Launch) : e2_smOk l 2 s_b370 := e2_con0 (H := 1) (n := 0) (C := evd_190) (S := S_b370) (I := I_b370) (fuel := 4000) [] hen ei_190 (e2_fa (cs_b262 hen l) e2_fz) e2_fz (by decide) co_b370 ex2_190 ck_b370
/-! b371 X10_readGlyph -/
def as_b371 : List ev_V := [(2, 83, 0)]
def E_b371 : e2_E := [(2147483648, 2147583648, 0, 0), (2147483648, 2147483656, 1, 0), (2147483648, 2147485249, 2, 0)]
def bn1942 : e2_Q7 := (bn485, bn1426)
def bn1943 : e2_Q8 := (bn1824, bn1942)
noncomputable def f_b371 : ev_H := (bn1943 : e2_Q8)
def bn1944 : e2_Q7 := (bn485, bn1431)
def bn1945 : e2_Q8 := (bn1938, bn1944)
noncomputable def q_b371_0 : ev_H := (bn1945 : e2_Q8)
noncomputable def rs_b371 : e2_Rs := [((9, 0, 0), q_b371_0)]
noncomputable def s_b371 : e2_Sm := (196, as_b371, E_b371, f_b371, rs_b371)
noncomputable def S_b371 : List e2_Sm := [s_b65, s_b187, s_b245, s_b261, s_b264, s_b266, s_b370]
noncomputable def I_b371 : List e2_In := [(179, 3, e2x_179)]
set_option maxRecDepth 1000000 in
theorem ck_b371 : e2_run (e2_cal S_b371 I_b371 4000 1) (e2_fin rs_b371) e2x_196 (fun _ => false) (fun _ _ _ _ _ => false) 4000 (e2_seek e2x_196 0) (e2_al 2 as_b371) [] E_b371 f_b371 = true := by decide +kernel
set_option maxRecDepth 1000000 in
theorem co_b371 : e2_okSB E_b371.length as_b371 f_b371 rs_b371 = true := by decide +kernel
theorem cs_b371 (hen : en_ok) (l : Launch) (hh : e2_hand_b l) : e2_smOk l 62 s_b371 := e2_con0 (H := 60) (n := 1) (C := evd_196) (S := S_b371) (I := I_b371) (fuel := 4000) [] hen ei_196 (e2_fa (hh _ hm_b65) (e2_fa ((cs_b187 hen l).mono (by decide)) (e2_fa ((cs_b245 hen l).mono (by decide)) (e2_fa ((cs_b261 hen l).mono (by decide)) (e2_fa ((cs_b264 hen l).mono (by decide)) (e2_fa ((cs_b266 hen l).mono (by decide)) (e2_fa ((cs_b370 hen l).mono (by decide)) e2_fz))))))) (e2_fa ein_179 e2_fz) (by decide) co_b371 ex2_196 ck_b371
/-! b372 X10_glyphHere -/
def as_b372 : List ev_V := [(2, 83, 0)]
def E_b372 : e2_E := [(2147483648, 2147583648, 0, 0), (2147483648, 2147483656, 1, 0), (2147483648, 2147485249, 2, 0)]
def bn1946 : e2_Q8 := (bn1928, bn1094)
noncomputable def f_b372 : ev_H := (bn1946 : e2_Q8)
noncomputable def q_b372_0 : ev_H := (bn1946 : e2_Q8)
noncomputable def rs_b372 : e2_Rs := [((0, 4294967295, 0), q_b372_0)]
noncomputable def s_b372 : e2_Sm := (190, as_b372, E_b372, f_b372, rs_b372)
noncomputable def S_b372 : List e2_Sm := [s_b269]
noncomputable def I_b372 : List e2_In := []
set_option maxRecDepth 1000000 in
theorem ck_b372 : e2_run (e2_cal S_b372 I_b372 4000 0) (e2_fin rs_b372) e2x_190 (fun _ => false) (fun _ _ _ _ _ => false) 4000 (e2_seek e2x_190 0) (e2_al 1 as_b372) [] E_b372 f_b372 = true := by decide +kernel
set_option maxRecDepth 1000000 in
theorem co_b372 : e2_okSB E_b372.length as_b372 f_b372 rs_b372 = true := by decide +kernel
theorem cs_b372 (hen : en_ok) (l : Launch) : e2_smOk l 2 s_b372 := e2_con0 (H := 1) (n := 0) (C := evd_190) (S := S_b372) (I := I_b372) (fuel := 4000) [] hen ei_190 (e2_fa (cs_b269 hen l) e2_fz) e2_fz (by decide) co_b372 ex2_190 ck_b372
/-! b373 X10_readGlyph -/
def as_b373 : List ev_V := [(2, 83, 0)]
def E_b373 : e2_E := [(2147483648, 2147583648, 0, 0), (2147483648, 2147483656, 1, 0), (2147483648, 2147485249, 2, 0)]
def bn1947 : e2_Q7 := (bn485, bn1440)
def bn1948 : e2_Q8 := (bn1824, bn1947)
noncomputable def f_b373 : ev_H := (bn1948 : e2_Q8)
def bn1949 : e2_Q7 := (bn485, bn1445)
def bn1950 : e2_Q8 := (bn1938, bn1949)
noncomputable def q_b373_0 : ev_H := (bn1950 : e2_Q8)
noncomputable def rs_b373 : e2_Rs := [((9, 0, 0), q_b373_0)]
noncomputable def s_b373 : e2_Sm := (196, as_b373, E_b373, f_b373, rs_b373)
noncomputable def S_b373 : List e2_Sm := [s_b58, s_b185, s_b234, s_b268, s_b271, s_b273, s_b372]
noncomputable def I_b373 : List e2_In := [(179, 3, e2x_179)]
set_option maxRecDepth 1000000 in
theorem ck_b373 : e2_run (e2_cal S_b373 I_b373 4000 1) (e2_fin rs_b373) e2x_196 (fun _ => false) (fun _ _ _ _ _ => false) 4000 (e2_seek e2x_196 0) (e2_al 2 as_b373) [] E_b373 f_b373 = true := by decide +kernel
set_option maxRecDepth 1000000 in
theorem co_b373 : e2_okSB E_b373.length as_b373 f_b373 rs_b373 = true := by decide +kernel
theorem cs_b373 (hen : en_ok) (l : Launch) (hh : e2_hand_b l) : e2_smOk l 62 s_b373 := e2_con0 (H := 60) (n := 1) (C := evd_196) (S := S_b373) (I := I_b373) (fuel := 4000) [] hen ei_196 (e2_fa (hh _ hm_b58) (e2_fa ((cs_b185 hen l).mono (by decide)) (e2_fa ((cs_b234 hen l).mono (by decide)) (e2_fa ((cs_b268 hen l).mono (by decide)) (e2_fa ((cs_b271 hen l).mono (by decide)) (e2_fa ((cs_b273 hen l).mono (by decide)) (e2_fa ((cs_b372 hen l).mono (by decide)) e2_fz))))))) (e2_fa ein_179 e2_fz) (by decide) co_b373 ex2_196 ck_b373
/-! b374 X10_glyphHere -/
def as_b374 : List ev_V := [(2, 83, 0)]
def E_b374 : e2_E := [(2147483648, 2147583648, 0, 0), (2147483648, 2147483656, 1, 0), (2147483648, 2147485249, 2, 0)]
def bn1951 : e2_Q8 := (bn1928, bn1146)
noncomputable def f_b374 : ev_H := (bn1951 : e2_Q8)
noncomputable def q_b374_0 : ev_H := (bn1951 : e2_Q8)
noncomputable def rs_b374 : e2_Rs := [((0, 4294967295, 0), q_b374_0)]
noncomputable def s_b374 : e2_Sm := (190, as_b374, E_b374, f_b374, rs_b374)
noncomputable def S_b374 : List e2_Sm := [s_b276]
noncomputable def I_b374 : List e2_In := []
set_option maxRecDepth 1000000 in
theorem ck_b374 : e2_run (e2_cal S_b374 I_b374 4000 0) (e2_fin rs_b374) e2x_190 (fun _ => false) (fun _ _ _ _ _ => false) 4000 (e2_seek e2x_190 0) (e2_al 1 as_b374) [] E_b374 f_b374 = true := by decide +kernel
set_option maxRecDepth 1000000 in
theorem co_b374 : e2_okSB E_b374.length as_b374 f_b374 rs_b374 = true := by decide +kernel
theorem cs_b374 (hen : en_ok) (l : Launch) : e2_smOk l 2 s_b374 := e2_con0 (H := 1) (n := 0) (C := evd_190) (S := S_b374) (I := I_b374) (fuel := 4000) [] hen ei_190 (e2_fa (cs_b276 hen l) e2_fz) e2_fz (by decide) co_b374 ex2_190 ck_b374
/-! b375 X10_readGlyph -/
def as_b375 : List ev_V := [(2, 83, 0)]
def E_b375 : e2_E := [(2147483648, 2147583648, 0, 0), (2147483648, 2147483656, 1, 0), (2147483648, 2147485249, 2, 0)]
def bn1952 : e2_Q7 := (bn485, bn1454)
def bn1953 : e2_Q8 := (bn1824, bn1952)
noncomputable def f_b375 : ev_H := (bn1953 : e2_Q8)
def bn1954 : e2_Q7 := (bn485, bn1459)
def bn1955 : e2_Q8 := (bn1938, bn1954)
noncomputable def q_b375_0 : ev_H := (bn1955 : e2_Q8)
noncomputable def rs_b375 : e2_Rs := [((9, 0, 0), q_b375_0)]
noncomputable def s_b375 : e2_Sm := (196, as_b375, E_b375, f_b375, rs_b375)
noncomputable def S_b375 : List e2_Sm := [s_b56, s_b178, s_b232, s_b275, s_b278, s_b280, s_b374]
noncomputable def I_b375 : List e2_In := [(179, 3, e2x_179)]
set_option maxRecDepth 1000000 in
theorem ck_b375 : e2_run (e2_cal S_b375 I_b375 4000 1) (e2_fin rs_b375) e2x_196 (fun _ => false) (fun _ _ _ _ _ => false) 4000 (e2_seek e2x_196 0) (e2_al 2 as_b375) [] E_b375 f_b375 = true := by decide +kernel
set_option maxRecDepth 1000000 in
theorem co_b375 : e2_okSB E_b375.length as_b375 f_b375 rs_b375 = true := by decide +kernel
theorem cs_b375 (hen : en_ok) (l : Launch) (hh : e2_hand_b l) : e2_smOk l 62 s_b375 := e2_con0 (H := 60) (n := 1) (C := evd_196) (S := S_b375) (I := I_b375) (fuel := 4000) [] hen ei_196 (e2_fa (hh _ hm_b56) (e2_fa ((cs_b178 hen l).mono (by decide)) (e2_fa ((cs_b232 hen l).mono (by decide)) (e2_fa ((cs_b275 hen l).mono (by decide)) (e2_fa ((cs_b278 hen l).mono (by decide)) (e2_fa ((cs_b280 hen l).mono (by decide)) (e2_fa ((cs_b374 hen l).mono (by decide)) e2_fz))))))) (e2_fa ein_179 e2_fz) (by decide) co_b375 ex2_196 ck_b375
/-! b376 X10_glyphHere -/
def as_b376 : List ev_V := [(2, 83, 0)]
def E_b376 : e2_E := [(2147483648, 2147583648, 0, 0), (2147483648, 2147483656, 1, 0), (2147483648, 2147485249, 2, 0)]
def bn1956 : e2_Q7 := (bn1927, bn1463)
def bn1957 : e2_Q8 := (bn1956, bn1150)
noncomputable def f_b376 : ev_H := (bn1957 : e2_Q8)
noncomputable def q_b376_0 : ev_H := (bn1957 : e2_Q8)
noncomputable def rs_b376 : e2_Rs := [((11, 2147483647, 2147483655), q_b376_0)]
noncomputable def s_b376 : e2_Sm := (190, as_b376, E_b376, f_b376, rs_b376)
noncomputable def S_b376 : List e2_Sm := [s_b283]
noncomputable def I_b376 : List e2_In := []
set_option maxRecDepth 1000000 in
theorem ck_b376 : e2_run (e2_cal S_b376 I_b376 4000 0) (e2_fin rs_b376) e2x_190 (fun _ => false) (fun _ _ _ _ _ => false) 4000 (e2_seek e2x_190 0) (e2_al 1 as_b376) [] E_b376 f_b376 = true := by decide +kernel
set_option maxRecDepth 1000000 in
theorem co_b376 : e2_okSB E_b376.length as_b376 f_b376 rs_b376 = true := by decide +kernel
theorem cs_b376 (hen : en_ok) (l : Launch) : e2_smOk l 2 s_b376 := e2_con0 (H := 1) (n := 0) (C := evd_190) (S := S_b376) (I := I_b376) (fuel := 4000) [] hen ei_190 (e2_fa (cs_b283 hen l) e2_fz) e2_fz (by decide) co_b376 ex2_190 ck_b376
/-! b377 X10_readGlyph -/
def as_b377 : List ev_V := [(2, 83, 0)]
def E_b377 : e2_E := [(2147483648, 2147583648, 0, 0), (2147483648, 2147483656, 1, 0), (2147483648, 2147485249, 2, 0)]
def bn1958 : e2_Q7 := (bn1847, bn1524)
def bn1959 : e2_Q8 := (bn1824, bn1958)
noncomputable def f_b377 : ev_H := (bn1959 : e2_Q8)
def bn1960 : e2_Q5 := (bn515, bn1488)
def bn1961 : e2_Q6 := (bn1960, bn356)
def bn1962 : e2_Q7 := (bn1961, bn1531)
def bn1963 : e2_Q8 := (bn1938, bn1962)
noncomputable def q_b377_0 : ev_H := (bn1963 : e2_Q8)
def bn1964 : e2_Q7 := (bn1847, bn1536)
def bn1965 : e2_Q8 := (bn1938, bn1964)
noncomputable def q_b377_1 : ev_H := (bn1965 : e2_Q8)
def bn1966 : e2_Q7 := (bn1961, bn1541)
def bn1967 : e2_Q8 := (bn1938, bn1966)
noncomputable def q_b377_2 : ev_H := (bn1967 : e2_Q8)
def bn1968 : e2_Q7 := (bn1961, bn1546)
def bn1969 : e2_Q8 := (bn1938, bn1968)
noncomputable def q_b377_3 : ev_H := (bn1969 : e2_Q8)
def bn1970 : e2_Q7 := (bn1961, bn1551)
def bn1971 : e2_Q8 := (bn1938, bn1970)
noncomputable def q_b377_4 : ev_H := (bn1971 : e2_Q8)
def bn1972 : e2_Q7 := (bn1961, bn1556)
def bn1973 : e2_Q8 := (bn1938, bn1972)
noncomputable def q_b377_5 : ev_H := (bn1973 : e2_Q8)
def bn1974 : e2_Q7 := (bn1961, bn1561)
def bn1975 : e2_Q8 := (bn1938, bn1974)
noncomputable def q_b377_6 : ev_H := (bn1975 : e2_Q8)
def bn1976 : e2_Q7 := (bn1961, bn1566)
def bn1977 : e2_Q8 := (bn1938, bn1976)
noncomputable def q_b377_7 : ev_H := (bn1977 : e2_Q8)
def bn1978 : e2_Q7 := (bn1961, bn1417)
def bn1979 : e2_Q8 := (bn1938, bn1978)
noncomputable def q_b377_8 : ev_H := (bn1979 : e2_Q8)
def bn1980 : e2_Q7 := (bn1961, bn1459)
def bn1981 : e2_Q8 := (bn1938, bn1980)
noncomputable def q_b377_9 : ev_H := (bn1981 : e2_Q8)
def bn1982 : e2_Q7 := (bn1847, bn1575)
def bn1983 : e2_Q8 := (bn1938, bn1982)
noncomputable def q_b377_10 : ev_H := (bn1983 : e2_Q8)
noncomputable def rs_b377 : e2_Rs := [((9, 0, 0), q_b377_0), ((9, 0, 0), q_b377_1), ((9, 0, 0), q_b377_2), ((9, 0, 0), q_b377_3), ((9, 0, 0), q_b377_4), ((9, 0, 0), q_b377_5), ((9, 0, 0), q_b377_6), ((9, 0, 0), q_b377_7), ((9, 0, 0), q_b377_8), ((9, 0, 0), q_b377_9), ((9, 0, 0), q_b377_10)]
noncomputable def s_b377 : e2_Sm := (196, as_b377, E_b377, f_b377, rs_b377)
noncomputable def S_b377 : List e2_Sm := [s_b59, s_b60, s_b61, s_b62, s_b63, s_b64, s_b181, s_b183, s_b184, s_b186, s_b188, s_b190, s_b191, s_b192, s_b232, s_b233, s_b235, s_b236, s_b237, s_b238, s_b239, s_b240, s_b241, s_b242, s_b243, s_b244, s_b257, s_b259, s_b278, s_b280, s_b282, s_b285, s_b286, s_b287, s_b288, s_b289, s_b290, s_b291, s_b292, s_b293, s_b294, s_b295, s_b297, s_b299, s_b301, s_b303, s_b305, s_b307, s_b309, s_b311, s_b313, s_b315, s_b376]
noncomputable def I_b377 : List e2_In := [(179, 3, e2x_179)]
set_option maxRecDepth 1000000 in
theorem ck_b377 : e2_run (e2_cal S_b377 I_b377 4000 1) (e2_fin rs_b377) e2x_196 (fun _ => false) (fun _ _ _ _ _ => false) 4000 (e2_seek e2x_196 0) (e2_al 2 as_b377) [] E_b377 f_b377 = true := by decide +kernel
set_option maxRecDepth 1000000 in
theorem co_b377 : e2_okSB E_b377.length as_b377 f_b377 rs_b377 = true := by decide +kernel
theorem cs_b377 (hen : en_ok) (l : Launch) (hh : e2_hand_b l) : e2_smOk l 62 s_b377 := e2_con0 (H := 60) (n := 1) (C := evd_196) (S := S_b377) (I := I_b377) (fuel := 4000) [] hen ei_196 (e2_fa (hh _ hm_b59) (e2_fa (hh _ hm_b60) (e2_fa (hh _ hm_b61) (e2_fa (hh _ hm_b62) (e2_fa (hh _ hm_b63) (e2_fa (hh _ hm_b64) (e2_fa ((cs_b181 hen l).mono (by decide)) (e2_fa ((cs_b183 hen l).mono (by decide)) (e2_fa ((cs_b184 hen l).mono (by decide)) (e2_fa ((cs_b186 hen l).mono (by decide)) (e2_fa ((cs_b188 hen l).mono (by decide)) (e2_fa ((cs_b190 hen l).mono (by decide)) (e2_fa ((cs_b191 hen l).mono (by decide)) (e2_fa ((cs_b192 hen l).mono (by decide)) (e2_fa ((cs_b232 hen l).mono (by decide)) (e2_fa ((cs_b233 hen l).mono (by decide)) (e2_fa ((cs_b235 hen l).mono (by decide)) (e2_fa ((cs_b236 hen l).mono (by decide)) (e2_fa ((cs_b237 hen l).mono (by decide)) (e2_fa ((cs_b238 hen l).mono (by decide)) (e2_fa ((cs_b239 hen l).mono (by decide)) (e2_fa ((cs_b240 hen l).mono (by decide)) (e2_fa ((cs_b241 hen l).mono (by decide)) (e2_fa ((cs_b242 hen l).mono (by decide)) (e2_fa ((cs_b243 hen l).mono (by decide)) (e2_fa ((cs_b244 hen l).mono (by decide)) (e2_fa ((cs_b257 hen l).mono (by decide)) (e2_fa ((cs_b259 hen l).mono (by decide)) (e2_fa ((cs_b278 hen l).mono (by decide)) (e2_fa ((cs_b280 hen l).mono (by decide)) (e2_fa ((cs_b282 hen l).mono (by decide)) (e2_fa ((cs_b285 hen l).mono (by decide)) (e2_fa ((cs_b286 hen l).mono (by decide)) (e2_fa ((cs_b287 hen l).mono (by decide)) (e2_fa ((cs_b288 hen l).mono (by decide)) (e2_fa ((cs_b289 hen l).mono (by decide)) (e2_fa ((cs_b290 hen l).mono (by decide)) (e2_fa ((cs_b291 hen l).mono (by decide)) (e2_fa ((cs_b292 hen l).mono (by decide)) (e2_fa ((cs_b293 hen l).mono (by decide)) (e2_fa ((cs_b294 hen l).mono (by decide)) (e2_fa ((cs_b295 hen l).mono (by decide)) (e2_fa ((cs_b297 hen l).mono (by decide)) (e2_fa ((cs_b299 hen l).mono (by decide)) (e2_fa ((cs_b301 hen l).mono (by decide)) (e2_fa ((cs_b303 hen l).mono (by decide)) (e2_fa ((cs_b305 hen l).mono (by decide)) (e2_fa ((cs_b307 hen l).mono (by decide)) (e2_fa ((cs_b309 hen l).mono (by decide)) (e2_fa ((cs_b311 hen l).mono (by decide)) (e2_fa ((cs_b313 hen l).mono (by decide)) (e2_fa ((cs_b315 hen l).mono (by decide)) (e2_fa ((cs_b376 hen l).mono (by decide)) e2_fz))))))))))))))))))))))))))))))))))))))))))))))))))))) (e2_fa ein_179 e2_fz) (by decide) co_b377 ex2_196 ck_b377
/-! b378 X10_readNever -/
def as_b378 : List ev_V := [(2, 83, 0)]
def E_b378 : e2_E := [(2147483648, 2147583648, 0, 0), (2147483648, 2147483656, 1, 0), (2147483648, 2147485249, 2, 0)]
noncomputable def f_b378 : ev_H := (bn1929 : e2_Q8)
def bn1984 : e2_Q8 := (bn1928, bn1084)
noncomputable def q_b378_0 : ev_H := (bn1984 : e2_Q8)
noncomputable def rs_b378 : e2_Rs := [((9, 0, 0), q_b378_0)]
noncomputable def s_b378 : e2_Sm := (197, as_b378, E_b378, f_b378, rs_b378)
noncomputable def S_b378 : List e2_Sm := [s_b285, s_b368]
noncomputable def I_b378 : List e2_In := [(174, 1, e2x_174)]
set_option maxRecDepth 1000000 in
theorem ck_b378 : e2_run (e2_cal S_b378 I_b378 4000 1) (e2_fin rs_b378) e2x_197 (fun _ => false) (fun _ _ _ _ _ => false) 4000 (e2_seek e2x_197 0) (e2_al 3 as_b378) [] E_b378 f_b378 = true := by decide +kernel
set_option maxRecDepth 1000000 in
theorem co_b378 : e2_okSB E_b378.length as_b378 f_b378 rs_b378 = true := by decide +kernel
theorem cs_b378 (hen : en_ok) (l : Launch) : e2_smOk l 5 s_b378 := e2_con0 (H := 3) (n := 1) (C := evd_197) (S := S_b378) (I := I_b378) (fuel := 4000) [] hen ei_197 (e2_fa (cs_b285 hen l) (e2_fa ((cs_b368 hen l).mono (by decide)) e2_fz)) (e2_fa ein_174 e2_fz) (by decide) co_b378 ex2_197 ck_b378
/-! b379 X10_readNever -/
def as_b379 : List ev_V := [(2, 83, 0)]
def E_b379 : e2_E := [(2147483648, 2147583648, 0, 0), (2147483648, 2147483656, 1, 0), (2147483648, 2147485249, 2, 0)]
noncomputable def f_b379 : ev_H := (bn1941 : e2_Q8)
def bn1985 : e2_Q8 := (bn1928, bn1090)
noncomputable def q_b379_0 : ev_H := (bn1985 : e2_Q8)
noncomputable def rs_b379 : e2_Rs := [((9, 0, 0), q_b379_0)]
noncomputable def s_b379 : e2_Sm := (197, as_b379, E_b379, f_b379, rs_b379)
noncomputable def S_b379 : List e2_Sm := [s_b318, s_b370]
noncomputable def I_b379 : List e2_In := [(174, 1, e2x_174)]
set_option maxRecDepth 1000000 in
theorem ck_b379 : e2_run (e2_cal S_b379 I_b379 4000 1) (e2_fin rs_b379) e2x_197 (fun _ => false) (fun _ _ _ _ _ => false) 4000 (e2_seek e2x_197 0) (e2_al 3 as_b379) [] E_b379 f_b379 = true := by decide +kernel
set_option maxRecDepth 1000000 in
theorem co_b379 : e2_okSB E_b379.length as_b379 f_b379 rs_b379 = true := by decide +kernel
theorem cs_b379 (hen : en_ok) (l : Launch) : e2_smOk l 5 s_b379 := e2_con0 (H := 3) (n := 1) (C := evd_197) (S := S_b379) (I := I_b379) (fuel := 4000) [] hen ei_197 (e2_fa (cs_b318 hen l) (e2_fa ((cs_b370 hen l).mono (by decide)) e2_fz)) (e2_fa ein_174 e2_fz) (by decide) co_b379 ex2_197 ck_b379
/-! b380 X10_readNever -/
def as_b380 : List ev_V := [(2, 83, 0)]
def E_b380 : e2_E := [(2147483648, 2147583648, 0, 0), (2147483648, 2147483656, 1, 0), (2147483648, 2147485249, 2, 0)]
noncomputable def f_b380 : ev_H := (bn1946 : e2_Q8)
def bn1986 : e2_Q8 := (bn1928, bn1096)
noncomputable def q_b380_0 : ev_H := (bn1986 : e2_Q8)
noncomputable def rs_b380 : e2_Rs := [((9, 0, 0), q_b380_0)]
noncomputable def s_b380 : e2_Sm := (197, as_b380, E_b380, f_b380, rs_b380)
noncomputable def S_b380 : List e2_Sm := [s_b320, s_b372]
noncomputable def I_b380 : List e2_In := [(174, 1, e2x_174)]
set_option maxRecDepth 1000000 in
theorem ck_b380 : e2_run (e2_cal S_b380 I_b380 4000 1) (e2_fin rs_b380) e2x_197 (fun _ => false) (fun _ _ _ _ _ => false) 4000 (e2_seek e2x_197 0) (e2_al 3 as_b380) [] E_b380 f_b380 = true := by decide +kernel
set_option maxRecDepth 1000000 in
theorem co_b380 : e2_okSB E_b380.length as_b380 f_b380 rs_b380 = true := by decide +kernel
theorem cs_b380 (hen : en_ok) (l : Launch) : e2_smOk l 5 s_b380 := e2_con0 (H := 3) (n := 1) (C := evd_197) (S := S_b380) (I := I_b380) (fuel := 4000) [] hen ei_197 (e2_fa (cs_b320 hen l) (e2_fa ((cs_b372 hen l).mono (by decide)) e2_fz)) (e2_fa ein_174 e2_fz) (by decide) co_b380 ex2_197 ck_b380
/-! b381 X10_readNever -/
def as_b381 : List ev_V := [(2, 83, 0)]
def E_b381 : e2_E := [(2147483648, 2147583648, 0, 0), (2147483648, 2147483656, 1, 0), (2147483648, 2147485249, 2, 0)]
noncomputable def f_b381 : ev_H := (bn1951 : e2_Q8)
def bn1987 : e2_Q8 := (bn1928, bn1082)
noncomputable def q_b381_0 : ev_H := (bn1987 : e2_Q8)
noncomputable def rs_b381 : e2_Rs := [((9, 0, 0), q_b381_0)]
noncomputable def s_b381 : e2_Sm := (197, as_b381, E_b381, f_b381, rs_b381)
noncomputable def S_b381 : List e2_Sm := [s_b288, s_b374]
noncomputable def I_b381 : List e2_In := [(174, 1, e2x_174)]
set_option maxRecDepth 1000000 in
theorem ck_b381 : e2_run (e2_cal S_b381 I_b381 4000 1) (e2_fin rs_b381) e2x_197 (fun _ => false) (fun _ _ _ _ _ => false) 4000 (e2_seek e2x_197 0) (e2_al 3 as_b381) [] E_b381 f_b381 = true := by decide +kernel
set_option maxRecDepth 1000000 in
theorem co_b381 : e2_okSB E_b381.length as_b381 f_b381 rs_b381 = true := by decide +kernel
theorem cs_b381 (hen : en_ok) (l : Launch) : e2_smOk l 5 s_b381 := e2_con0 (H := 3) (n := 1) (C := evd_197) (S := S_b381) (I := I_b381) (fuel := 4000) [] hen ei_197 (e2_fa (cs_b288 hen l) (e2_fa ((cs_b374 hen l).mono (by decide)) e2_fz)) (e2_fa ein_174 e2_fz) (by decide) co_b381 ex2_197 ck_b381
/-! b382 X10_glyphHere -/
def as_b382 : List ev_V := [(2, 83, 0)]
def E_b382 : e2_E := [(2147483648, 2147583648, 0, 0), (2147483648, 2147483656, 1, 0), (2147483648, 2147485249, 2, 0)]
def bn1988 : e2_Q8 := (bn1928, bn1152)
noncomputable def f_b382 : ev_H := (bn1988 : e2_Q8)
noncomputable def q_b382_0 : ev_H := (bn1988 : e2_Q8)
noncomputable def rs_b382 : e2_Rs := [((0, 4294967295, 0), q_b382_0)]
noncomputable def s_b382 : e2_Sm := (190, as_b382, E_b382, f_b382, rs_b382)
noncomputable def S_b382 : List e2_Sm := [s_b323]
noncomputable def I_b382 : List e2_In := []
set_option maxRecDepth 1000000 in
theorem ck_b382 : e2_run (e2_cal S_b382 I_b382 4000 0) (e2_fin rs_b382) e2x_190 (fun _ => false) (fun _ _ _ _ _ => false) 4000 (e2_seek e2x_190 0) (e2_al 1 as_b382) [] E_b382 f_b382 = true := by decide +kernel
set_option maxRecDepth 1000000 in
theorem co_b382 : e2_okSB E_b382.length as_b382 f_b382 rs_b382 = true := by decide +kernel
theorem cs_b382 (hen : en_ok) (l : Launch) : e2_smOk l 2 s_b382 := e2_con0 (H := 1) (n := 0) (C := evd_190) (S := S_b382) (I := I_b382) (fuel := 4000) [] hen ei_190 (e2_fa (cs_b323 hen l) e2_fz) e2_fz (by decide) co_b382 ex2_190 ck_b382
/-! b383 X10_glyphHere -/
def as_b383 : List ev_V := [(2, 83, 0)]
def E_b383 : e2_E := [(2147483648, 2147583648, 0, 0), (2147483648, 2147483656, 1, 0), (2147483648, 2147485249, 2, 0)]
def bn1989 : e2_Q8 := (bn1928, bn1198)
noncomputable def f_b383 : ev_H := (bn1989 : e2_Q8)
noncomputable def q_b383_0 : ev_H := (bn1989 : e2_Q8)
noncomputable def rs_b383 : e2_Rs := [((0, 4294967295, 0), q_b383_0)]
noncomputable def s_b383 : e2_Sm := (190, as_b383, E_b383, f_b383, rs_b383)
noncomputable def S_b383 : List e2_Sm := [s_b325]
noncomputable def I_b383 : List e2_In := []
set_option maxRecDepth 1000000 in
theorem ck_b383 : e2_run (e2_cal S_b383 I_b383 4000 0) (e2_fin rs_b383) e2x_190 (fun _ => false) (fun _ _ _ _ _ => false) 4000 (e2_seek e2x_190 0) (e2_al 1 as_b383) [] E_b383 f_b383 = true := by decide +kernel
set_option maxRecDepth 1000000 in
theorem co_b383 : e2_okSB E_b383.length as_b383 f_b383 rs_b383 = true := by decide +kernel
theorem cs_b383 (hen : en_ok) (l : Launch) : e2_smOk l 2 s_b383 := e2_con0 (H := 1) (n := 0) (C := evd_190) (S := S_b383) (I := I_b383) (fuel := 4000) [] hen ei_190 (e2_fa (cs_b325 hen l) e2_fz) e2_fz (by decide) co_b383 ex2_190 ck_b383
/-! b384 X10_readNever -/
def as_b384 : List ev_V := [(2, 83, 0)]
def E_b384 : e2_E := [(2147483648, 2147583648, 0, 0), (2147483648, 2147483656, 1, 0), (2147483648, 2147485249, 2, 0)]
def bn1990 : e2_Q6 := (bn1926, bn1584)
def bn1991 : e2_Q7 := (bn1990, bn1463)
def bn1992 : e2_Q8 := (bn1991, bn1588)
noncomputable def f_b384 : ev_H := (bn1992 : e2_Q8)
def bn1993 : e2_Q8 := (bn1991, bn1590)
noncomputable def q_b384_0 : ev_H := (bn1993 : e2_Q8)
def bn1994 : e2_Q8 := (bn1991, bn1592)
noncomputable def q_b384_1 : ev_H := (bn1994 : e2_Q8)
def bn1995 : e2_Q8 := (bn1991, bn1594)
noncomputable def q_b384_2 : ev_H := (bn1995 : e2_Q8)
def bn1996 : e2_Q8 := (bn1991, bn1596)
noncomputable def q_b384_3 : ev_H := (bn1996 : e2_Q8)
def bn1997 : e2_Q8 := (bn1991, bn1598)
noncomputable def q_b384_4 : ev_H := (bn1997 : e2_Q8)
def bn1998 : e2_Q8 := (bn1991, bn1600)
noncomputable def q_b384_5 : ev_H := (bn1998 : e2_Q8)
def bn1999 : e2_Q8 := (bn1991, bn1602)
noncomputable def q_b384_6 : ev_H := (bn1999 : e2_Q8)
def bn2000 : e2_Q8 := (bn1991, bn1604)
noncomputable def q_b384_7 : ev_H := (bn2000 : e2_Q8)
def bn2001 : e2_Q8 := (bn1991, bn1606)
noncomputable def q_b384_8 : ev_H := (bn2001 : e2_Q8)
def bn2002 : e2_Q8 := (bn1991, bn1608)
noncomputable def q_b384_9 : ev_H := (bn2002 : e2_Q8)
noncomputable def rs_b384 : e2_Rs := [((9, 0, 0), q_b384_0), ((9, 0, 0), q_b384_1), ((9, 0, 0), q_b384_2), ((9, 0, 0), q_b384_3), ((9, 0, 0), q_b384_4), ((9, 0, 0), q_b384_5), ((9, 0, 0), q_b384_6), ((9, 0, 0), q_b384_7), ((9, 0, 0), q_b384_8), ((9, 0, 0), q_b384_9)]
noncomputable def s_b384 : e2_Sm := (197, as_b384, E_b384, f_b384, rs_b384)
noncomputable def S_b384 : List e2_Sm := [s_b285, s_b286, s_b287, s_b288, s_b327, s_b328, s_b329, s_b330, s_b368, s_b374, s_b376, s_b382, s_b383]
noncomputable def I_b384 : List e2_In := [(173, 3, e2x_173), (174, 1, e2x_174)]
set_option maxRecDepth 1000000 in
theorem ck_b384 : e2_run (e2_cal S_b384 I_b384 4000 1) (e2_fin rs_b384) e2x_197 (fun _ => false) (fun _ _ _ _ _ => false) 4000 (e2_seek e2x_197 0) (e2_al 3 as_b384) [] E_b384 f_b384 = true := by decide +kernel
set_option maxRecDepth 1000000 in
theorem co_b384 : e2_okSB E_b384.length as_b384 f_b384 rs_b384 = true := by decide +kernel
theorem cs_b384 (hen : en_ok) (l : Launch) : e2_smOk l 8 s_b384 := e2_con0 (H := 6) (n := 1) (C := evd_197) (S := S_b384) (I := I_b384) (fuel := 4000) [] hen ei_197 (e2_fa ((cs_b285 hen l).mono (by decide)) (e2_fa ((cs_b286 hen l).mono (by decide)) (e2_fa ((cs_b287 hen l).mono (by decide)) (e2_fa ((cs_b288 hen l).mono (by decide)) (e2_fa ((cs_b327 hen l).mono (by decide)) (e2_fa (cs_b328 hen l) (e2_fa (cs_b329 hen l) (e2_fa ((cs_b330 hen l).mono (by decide)) (e2_fa ((cs_b368 hen l).mono (by decide)) (e2_fa ((cs_b374 hen l).mono (by decide)) (e2_fa ((cs_b376 hen l).mono (by decide)) (e2_fa ((cs_b382 hen l).mono (by decide)) (e2_fa ((cs_b383 hen l).mono (by decide)) e2_fz))))))))))))) (e2_fa ein_173 (e2_fa ein_174 e2_fz)) (by decide) co_b384 ex2_197 ck_b384
/-! b385 X10_readLine -/
def as_b385 : List ev_V := [(2, 83, 0)]
def E_b385 : e2_E := [(2147483648, 2147583648, 0, 0), (2147483648, 2147483656, 1, 0), (2147483648, 2147485249, 2, 0)]
def bn2003 : e2_Q7 := (bn1912, bn1735)
def bn2004 : e2_Q8 := (bn1906, bn2003)
noncomputable def f_b385 : ev_H := (bn2004 : e2_Q8)
def bn2005 : e2_Q7 := (bn1912, bn1743)
def bn2006 : e2_Q8 := (bn1906, bn2005)
noncomputable def q_b385_0 : ev_H := (bn2006 : e2_Q8)
def bn2007 : e2_Q7 := (bn1912, bn1748)
def bn2008 : e2_Q8 := (bn1906, bn2007)
noncomputable def q_b385_1 : ev_H := (bn2008 : e2_Q8)
def bn2009 : e2_Q7 := (bn1912, bn1752)
def bn2010 : e2_Q8 := (bn1906, bn2009)
noncomputable def q_b385_2 : ev_H := (bn2010 : e2_Q8)
def bn2011 : e2_Q7 := (bn1912, bn1756)
def bn2012 : e2_Q8 := (bn1906, bn2011)
noncomputable def q_b385_3 : ev_H := (bn2012 : e2_Q8)
noncomputable def q_b385_4 : ev_H := (bn1914 : e2_Q8)
noncomputable def q_b385_5 : ev_H := (bn1916 : e2_Q8)
noncomputable def q_b385_6 : ev_H := (bn1918 : e2_Q8)
noncomputable def q_b385_7 : ev_H := (bn1920 : e2_Q8)
noncomputable def q_b385_8 : ev_H := (bn1922 : e2_Q8)
def bn2013 : e2_Q7 := (bn1912, bn1780)
def bn2014 : e2_Q8 := (bn1906, bn2013)
noncomputable def q_b385_9 : ev_H := (bn2014 : e2_Q8)
def bn2015 : e2_Q7 := (bn1912, bn1784)
def bn2016 : e2_Q8 := (bn1906, bn2015)
noncomputable def q_b385_10 : ev_H := (bn2016 : e2_Q8)
def bn2017 : e2_Q4 := (bn747, bn1934)
def bn2018 : e2_Q5 := (bn329, bn2017)
def bn2019 : e2_Q6 := (bn2018, bn1717)
def bn2020 : e2_Q7 := (bn2019, bn1724)
def bn2021 : e2_Q8 := (bn2020, bn2007)
noncomputable def q_b385_11 : ev_H := (bn2021 : e2_Q8)
def bn2022 : e2_Q8 := (bn2020, bn2009)
noncomputable def q_b385_12 : ev_H := (bn2022 : e2_Q8)
def bn2023 : e2_Q8 := (bn2020, bn2013)
noncomputable def q_b385_13 : ev_H := (bn2023 : e2_Q8)
def bn2024 : e2_Q8 := (bn2020, bn2015)
noncomputable def q_b385_14 : ev_H := (bn2024 : e2_Q8)
def bn2025 : e2_Q5 := (bn515, bn1726)
def bn2026 : e2_Q6 := (bn2025, bn1729)
def bn2027 : e2_Q7 := (bn2026, bn1760)
def bn2028 : e2_Q8 := (bn2020, bn2027)
noncomputable def q_b385_15 : ev_H := (bn2028 : e2_Q8)
def bn2029 : e2_Q7 := (bn2026, bn1764)
def bn2030 : e2_Q8 := (bn2020, bn2029)
noncomputable def q_b385_16 : ev_H := (bn2030 : e2_Q8)
def bn2031 : e2_Q7 := (bn2026, bn1768)
def bn2032 : e2_Q8 := (bn2020, bn2031)
noncomputable def q_b385_17 : ev_H := (bn2032 : e2_Q8)
def bn2033 : e2_Q7 := (bn2026, bn1772)
def bn2034 : e2_Q8 := (bn2020, bn2033)
noncomputable def q_b385_18 : ev_H := (bn2034 : e2_Q8)
def bn2035 : e2_Q7 := (bn2026, bn1776)
def bn2036 : e2_Q8 := (bn2020, bn2035)
noncomputable def q_b385_19 : ev_H := (bn2036 : e2_Q8)
def bn2037 : e2_Q7 := (bn1912, bn1808)
def bn2038 : e2_Q8 := (bn2020, bn2037)
noncomputable def q_b385_20 : ev_H := (bn2038 : e2_Q8)
def bn2039 : e2_Q8 := (bn2020, bn2011)
noncomputable def q_b385_21 : ev_H := (bn2039 : e2_Q8)
noncomputable def rs_b385 : e2_Rs := [((9, 0, 0), q_b385_0), ((9, 0, 0), q_b385_1), ((9, 0, 0), q_b385_2), ((9, 0, 0), q_b385_3), ((9, 0, 0), q_b385_4), ((9, 0, 0), q_b385_5), ((9, 0, 0), q_b385_6), ((9, 0, 0), q_b385_7), ((9, 0, 0), q_b385_8), ((9, 0, 0), q_b385_9), ((9, 0, 0), q_b385_10), ((9, 0, 0), q_b385_11), ((9, 0, 0), q_b385_12), ((9, 0, 0), q_b385_13), ((9, 0, 0), q_b385_14), ((9, 0, 0), q_b385_15), ((9, 0, 0), q_b385_16), ((9, 0, 0), q_b385_17), ((9, 0, 0), q_b385_18), ((9, 0, 0), q_b385_19), ((9, 0, 0), q_b385_20), ((9, 0, 0), q_b385_21)]
noncomputable def s_b385 : e2_Sm := (187, as_b385, E_b385, f_b385, rs_b385)
noncomputable def S_b385 : List e2_Sm := [s_b173, s_b178, s_b179, s_b180, s_b181, s_b182, s_b183, s_b184, s_b185, s_b186, s_b187, s_b188, s_b189, s_b190, s_b191, s_b192, s_b193, s_b194, s_b195, s_b196, s_b197, s_b198, s_b199, s_b217, s_b218, s_b219, s_b220, s_b221, s_b249, s_b250, s_b251, s_b252, s_b253, s_b332, s_b333, s_b334, s_b335, s_b336, s_b338, s_b341, s_b344, s_b346, s_b348, s_b369, s_b371, s_b373, s_b375, s_b377, s_b378, s_b379, s_b380, s_b381, s_b384]
noncomputable def I_b385 : List e2_In := [(170, 2, e2x_170), (173, 3, e2x_173), (174, 1, e2x_174), (178, 2, e2x_178), (179, 3, e2x_179), (180, 1, e2x_180), (186, 1, e2x_186)]
set_option maxRecDepth 1000000 in
theorem ck_b385 : e2_run (e2_cal S_b385 I_b385 4000 2) (e2_fin rs_b385) e2x_187 (fun _ => false) (fun _ _ _ _ _ => false) 4000 (e2_seek e2x_187 0) (e2_al 3 as_b385) [] E_b385 f_b385 = true := by decide +kernel
set_option maxRecDepth 1000000 in
theorem co_b385 : e2_okSB E_b385.length as_b385 f_b385 rs_b385 = true := by decide +kernel
theorem cs_b385 (hen : en_ok) (l : Launch) (hh : e2_hand_b l) : e2_smOk l 65 s_b385 := e2_con0 (H := 62) (n := 2) (C := evd_187) (S := S_b385) (I := I_b385) (fuel := 4000) [] hen ei_187 (e2_fa ((cs_b173 hen l).mono (by decide)) (e2_fa ((cs_b178 hen l).mono (by decide)) (e2_fa ((cs_b179 hen l).mono (by decide)) (e2_fa ((cs_b180 hen l).mono (by decide)) (e2_fa ((cs_b181 hen l).mono (by decide)) (e2_fa ((cs_b182 hen l).mono (by decide)) (e2_fa ((cs_b183 hen l).mono (by decide)) (e2_fa ((cs_b184 hen l).mono (by decide)) (e2_fa ((cs_b185 hen l).mono (by decide)) (e2_fa ((cs_b186 hen l).mono (by decide)) (e2_fa ((cs_b187 hen l).mono (by decide)) (e2_fa ((cs_b188 hen l).mono (by decide)) (e2_fa ((cs_b189 hen l).mono (by decide)) (e2_fa ((cs_b190 hen l).mono (by decide)) (e2_fa ((cs_b191 hen l).mono (by decide)) (e2_fa ((cs_b192 hen l).mono (by decide)) (e2_fa ((cs_b193 hen l).mono (by decide)) (e2_fa ((cs_b194 hen l).mono (by decide)) (e2_fa ((cs_b195 hen l).mono (by decide)) (e2_fa ((cs_b196 hen l).mono (by decide)) (e2_fa ((cs_b197 hen l).mono (by decide)) (e2_fa ((cs_b198 hen l).mono (by decide)) (e2_fa ((cs_b199 hen l).mono (by decide)) (e2_fa ((cs_b217 hen l).mono (by decide)) (e2_fa ((cs_b218 hen l).mono (by decide)) (e2_fa ((cs_b219 hen l).mono (by decide)) (e2_fa ((cs_b220 hen l).mono (by decide)) (e2_fa ((cs_b221 hen l).mono (by decide)) (e2_fa ((cs_b249 hen l).mono (by decide)) (e2_fa ((cs_b250 hen l).mono (by decide)) (e2_fa ((cs_b251 hen l).mono (by decide)) (e2_fa ((cs_b252 hen l).mono (by decide)) (e2_fa ((cs_b253 hen l).mono (by decide)) (e2_fa ((cs_b332 hen l hh).mono (by decide)) (e2_fa ((cs_b333 hen l hh).mono (by decide)) (e2_fa ((cs_b334 hen l hh).mono (by decide)) (e2_fa ((cs_b335 hen l hh).mono (by decide)) (e2_fa ((cs_b336 hen l hh).mono (by decide)) (e2_fa ((cs_b338 hen l).mono (by decide)) (e2_fa ((cs_b341 hen l).mono (by decide)) (e2_fa ((cs_b344 hen l).mono (by decide)) (e2_fa ((cs_b346 hen l).mono (by decide)) (e2_fa ((cs_b348 hen l).mono (by decide)) (e2_fa (cs_b369 hen l hh) (e2_fa (cs_b371 hen l hh) (e2_fa (cs_b373 hen l hh) (e2_fa (cs_b375 hen l hh) (e2_fa (cs_b377 hen l hh) (e2_fa ((cs_b378 hen l).mono (by decide)) (e2_fa ((cs_b379 hen l).mono (by decide)) (e2_fa ((cs_b380 hen l).mono (by decide)) (e2_fa ((cs_b381 hen l).mono (by decide)) (e2_fa ((cs_b384 hen l).mono (by decide)) e2_fz))))))))))))))))))))))))))))))))))))))))))))))))))))) (e2_fa ein_170 (e2_fa ein_173 (e2_fa ein_174 (e2_fa ein_178 (e2_fa ein_179 (e2_fa ein_180 (e2_fa ein_186 e2_fz))))))) (by decide) co_b385 ex2_187 ck_b385
/-! b386 X10_glyphHere -/
def as_b386 : List ev_V := [(2, 83, 0)]
def E_b386 : e2_E := [(2147483648, 2147583648, 0, 0), (2147483648, 2147483656, 1, 0), (2147483648, 2147485249, 2, 0)]
def bn2040 : e2_Q5 := (bn14, bn1935)
def bn2041 : e2_Q6 := (bn2040, bn338)
def bn2042 : e2_Q7 := (bn2041, bn345)
def bn2043 : e2_Q8 := (bn2042, bn1098)
noncomputable def f_b386 : ev_H := (bn2043 : e2_Q8)
noncomputable def q_b386_0 : ev_H := (bn2043 : e2_Q8)
noncomputable def rs_b386 : e2_Rs := [((0, 4294967295, 0), q_b386_0)]
noncomputable def s_b386 : e2_Sm := (190, as_b386, E_b386, f_b386, rs_b386)
noncomputable def S_b386 : List e2_Sm := [s_b255]
noncomputable def I_b386 : List e2_In := []
set_option maxRecDepth 1000000 in
theorem ck_b386 : e2_run (e2_cal S_b386 I_b386 4000 0) (e2_fin rs_b386) e2x_190 (fun _ => false) (fun _ _ _ _ _ => false) 4000 (e2_seek e2x_190 0) (e2_al 1 as_b386) [] E_b386 f_b386 = true := by decide +kernel
set_option maxRecDepth 1000000 in
theorem co_b386 : e2_okSB E_b386.length as_b386 f_b386 rs_b386 = true := by decide +kernel
theorem cs_b386 (hen : en_ok) (l : Launch) : e2_smOk l 2 s_b386 := e2_con0 (H := 1) (n := 0) (C := evd_190) (S := S_b386) (I := I_b386) (fuel := 4000) [] hen ei_190 (e2_fa (cs_b255 hen l) e2_fz) e2_fz (by decide) co_b386 ex2_190 ck_b386
/-! b387 X10_readGlyph -/
def as_b387 : List ev_V := [(2, 83, 0)]
def E_b387 : e2_E := [(2147483648, 2147583648, 0, 0), (2147483648, 2147483656, 1, 0), (2147483648, 2147485249, 2, 0)]
def bn2044 : e2_Q7 := (bn517, bn1405)
def bn2045 : e2_Q8 := (bn1938, bn2044)
noncomputable def f_b387 : ev_H := (bn2045 : e2_Q8)
def bc244 : ev_C := (50, [(1, 1, 4294967296), (0, 4, 0)])
def bn2046 : e2_Q1 := (bc244, bc3)
def bn2047 : e2_Q2 := (bn22, bn2046)
def bn2048 : e2_Q3 := (bn2047, bn27)
def bn2049 : e2_Q4 := (bn21, bn2048)
def bn2050 : e2_Q5 := (bn329, bn2049)
def bn2051 : e2_Q6 := (bn2050, bn338)
def bn2052 : e2_Q7 := (bn2051, bn1399)
def bn2053 : e2_Q7 := (bn517, bn1417)
def bn2054 : e2_Q8 := (bn2052, bn2053)
noncomputable def q_b387_0 : ev_H := (bn2054 : e2_Q8)
noncomputable def rs_b387 : e2_Rs := [((9, 0, 0), q_b387_0)]
noncomputable def s_b387 : e2_Sm := (196, as_b387, E_b387, f_b387, rs_b387)
noncomputable def S_b387 : List e2_Sm := [s_b77, s_b179, s_b233, s_b254, s_b257, s_b259, s_b386]
noncomputable def I_b387 : List e2_In := [(179, 3, e2x_179)]
set_option maxRecDepth 1000000 in
theorem ck_b387 : e2_run (e2_cal S_b387 I_b387 4000 1) (e2_fin rs_b387) e2x_196 (fun _ => false) (fun _ _ _ _ _ => false) 4000 (e2_seek e2x_196 0) (e2_al 2 as_b387) [] E_b387 f_b387 = true := by decide +kernel
set_option maxRecDepth 1000000 in
theorem co_b387 : e2_okSB E_b387.length as_b387 f_b387 rs_b387 = true := by decide +kernel
theorem cs_b387 (hen : en_ok) (l : Launch) (hh : e2_hand_b l) : e2_smOk l 62 s_b387 := e2_con0 (H := 60) (n := 1) (C := evd_196) (S := S_b387) (I := I_b387) (fuel := 4000) [] hen ei_196 (e2_fa (hh _ hm_b77) (e2_fa ((cs_b179 hen l).mono (by decide)) (e2_fa ((cs_b233 hen l).mono (by decide)) (e2_fa ((cs_b254 hen l).mono (by decide)) (e2_fa ((cs_b257 hen l).mono (by decide)) (e2_fa ((cs_b259 hen l).mono (by decide)) (e2_fa ((cs_b386 hen l).mono (by decide)) e2_fz))))))) (e2_fa ein_179 e2_fz) (by decide) co_b387 ex2_196 ck_b387
/-! b388 X10_glyphHere -/
def as_b388 : List ev_V := [(2, 83, 0)]
def E_b388 : e2_E := [(2147483648, 2147583648, 0, 0), (2147483648, 2147483656, 1, 0), (2147483648, 2147485249, 2, 0)]
def bn2055 : e2_Q8 := (bn2042, bn1088)
noncomputable def f_b388 : ev_H := (bn2055 : e2_Q8)
noncomputable def q_b388_0 : ev_H := (bn2055 : e2_Q8)
noncomputable def rs_b388 : e2_Rs := [((0, 4294967295, 0), q_b388_0)]
noncomputable def s_b388 : e2_Sm := (190, as_b388, E_b388, f_b388, rs_b388)
noncomputable def S_b388 : List e2_Sm := [s_b262]
noncomputable def I_b388 : List e2_In := []
set_option maxRecDepth 1000000 in
theorem ck_b388 : e2_run (e2_cal S_b388 I_b388 4000 0) (e2_fin rs_b388) e2x_190 (fun _ => false) (fun _ _ _ _ _ => false) 4000 (e2_seek e2x_190 0) (e2_al 1 as_b388) [] E_b388 f_b388 = true := by decide +kernel
set_option maxRecDepth 1000000 in
theorem co_b388 : e2_okSB E_b388.length as_b388 f_b388 rs_b388 = true := by decide +kernel
theorem cs_b388 (hen : en_ok) (l : Launch) : e2_smOk l 2 s_b388 := e2_con0 (H := 1) (n := 0) (C := evd_190) (S := S_b388) (I := I_b388) (fuel := 4000) [] hen ei_190 (e2_fa (cs_b262 hen l) e2_fz) e2_fz (by decide) co_b388 ex2_190 ck_b388
/-! b389 X10_readGlyph -/
def as_b389 : List ev_V := [(2, 83, 0)]
def E_b389 : e2_E := [(2147483648, 2147583648, 0, 0), (2147483648, 2147483656, 1, 0), (2147483648, 2147485249, 2, 0)]
def bn2056 : e2_Q7 := (bn517, bn1426)
def bn2057 : e2_Q8 := (bn1938, bn2056)
noncomputable def f_b389 : ev_H := (bn2057 : e2_Q8)
def bn2058 : e2_Q7 := (bn517, bn1431)
def bn2059 : e2_Q8 := (bn2052, bn2058)
noncomputable def q_b389_0 : ev_H := (bn2059 : e2_Q8)
noncomputable def rs_b389 : e2_Rs := [((9, 0, 0), q_b389_0)]
noncomputable def s_b389 : e2_Sm := (196, as_b389, E_b389, f_b389, rs_b389)
noncomputable def S_b389 : List e2_Sm := [s_b85, s_b187, s_b245, s_b261, s_b264, s_b266, s_b388]
noncomputable def I_b389 : List e2_In := [(179, 3, e2x_179)]
set_option maxRecDepth 1000000 in
theorem ck_b389 : e2_run (e2_cal S_b389 I_b389 4000 1) (e2_fin rs_b389) e2x_196 (fun _ => false) (fun _ _ _ _ _ => false) 4000 (e2_seek e2x_196 0) (e2_al 2 as_b389) [] E_b389 f_b389 = true := by decide +kernel
set_option maxRecDepth 1000000 in
theorem co_b389 : e2_okSB E_b389.length as_b389 f_b389 rs_b389 = true := by decide +kernel
theorem cs_b389 (hen : en_ok) (l : Launch) (hh : e2_hand_b l) : e2_smOk l 62 s_b389 := e2_con0 (H := 60) (n := 1) (C := evd_196) (S := S_b389) (I := I_b389) (fuel := 4000) [] hen ei_196 (e2_fa (hh _ hm_b85) (e2_fa ((cs_b187 hen l).mono (by decide)) (e2_fa ((cs_b245 hen l).mono (by decide)) (e2_fa ((cs_b261 hen l).mono (by decide)) (e2_fa ((cs_b264 hen l).mono (by decide)) (e2_fa ((cs_b266 hen l).mono (by decide)) (e2_fa ((cs_b388 hen l).mono (by decide)) e2_fz))))))) (e2_fa ein_179 e2_fz) (by decide) co_b389 ex2_196 ck_b389
/-! b390 X10_glyphHere -/
def as_b390 : List ev_V := [(2, 83, 0)]
def E_b390 : e2_E := [(2147483648, 2147583648, 0, 0), (2147483648, 2147483656, 1, 0), (2147483648, 2147485249, 2, 0)]
def bn2060 : e2_Q8 := (bn2042, bn1094)
noncomputable def f_b390 : ev_H := (bn2060 : e2_Q8)
noncomputable def q_b390_0 : ev_H := (bn2060 : e2_Q8)
noncomputable def rs_b390 : e2_Rs := [((0, 4294967295, 0), q_b390_0)]
noncomputable def s_b390 : e2_Sm := (190, as_b390, E_b390, f_b390, rs_b390)
noncomputable def S_b390 : List e2_Sm := [s_b269]
noncomputable def I_b390 : List e2_In := []
set_option maxRecDepth 1000000 in
theorem ck_b390 : e2_run (e2_cal S_b390 I_b390 4000 0) (e2_fin rs_b390) e2x_190 (fun _ => false) (fun _ _ _ _ _ => false) 4000 (e2_seek e2x_190 0) (e2_al 1 as_b390) [] E_b390 f_b390 = true := by decide +kernel
set_option maxRecDepth 1000000 in
theorem co_b390 : e2_okSB E_b390.length as_b390 f_b390 rs_b390 = true := by decide +kernel
theorem cs_b390 (hen : en_ok) (l : Launch) : e2_smOk l 2 s_b390 := e2_con0 (H := 1) (n := 0) (C := evd_190) (S := S_b390) (I := I_b390) (fuel := 4000) [] hen ei_190 (e2_fa (cs_b269 hen l) e2_fz) e2_fz (by decide) co_b390 ex2_190 ck_b390
/-! b391 X10_readGlyph -/
def as_b391 : List ev_V := [(2, 83, 0)]
def E_b391 : e2_E := [(2147483648, 2147583648, 0, 0), (2147483648, 2147483656, 1, 0), (2147483648, 2147485249, 2, 0)]
def bn2061 : e2_Q7 := (bn517, bn1440)
def bn2062 : e2_Q8 := (bn1938, bn2061)
noncomputable def f_b391 : ev_H := (bn2062 : e2_Q8)
def bn2063 : e2_Q7 := (bn517, bn1445)
def bn2064 : e2_Q8 := (bn2052, bn2063)
noncomputable def q_b391_0 : ev_H := (bn2064 : e2_Q8)
noncomputable def rs_b391 : e2_Rs := [((9, 0, 0), q_b391_0)]
noncomputable def s_b391 : e2_Sm := (196, as_b391, E_b391, f_b391, rs_b391)
noncomputable def S_b391 : List e2_Sm := [s_b78, s_b185, s_b234, s_b268, s_b271, s_b273, s_b390]
noncomputable def I_b391 : List e2_In := [(179, 3, e2x_179)]
set_option maxRecDepth 1000000 in
theorem ck_b391 : e2_run (e2_cal S_b391 I_b391 4000 1) (e2_fin rs_b391) e2x_196 (fun _ => false) (fun _ _ _ _ _ => false) 4000 (e2_seek e2x_196 0) (e2_al 2 as_b391) [] E_b391 f_b391 = true := by decide +kernel
set_option maxRecDepth 1000000 in
theorem co_b391 : e2_okSB E_b391.length as_b391 f_b391 rs_b391 = true := by decide +kernel
theorem cs_b391 (hen : en_ok) (l : Launch) (hh : e2_hand_b l) : e2_smOk l 62 s_b391 := e2_con0 (H := 60) (n := 1) (C := evd_196) (S := S_b391) (I := I_b391) (fuel := 4000) [] hen ei_196 (e2_fa (hh _ hm_b78) (e2_fa ((cs_b185 hen l).mono (by decide)) (e2_fa ((cs_b234 hen l).mono (by decide)) (e2_fa ((cs_b268 hen l).mono (by decide)) (e2_fa ((cs_b271 hen l).mono (by decide)) (e2_fa ((cs_b273 hen l).mono (by decide)) (e2_fa ((cs_b390 hen l).mono (by decide)) e2_fz))))))) (e2_fa ein_179 e2_fz) (by decide) co_b391 ex2_196 ck_b391
/-! b392 X10_glyphHere -/
def as_b392 : List ev_V := [(2, 83, 0)]
def E_b392 : e2_E := [(2147483648, 2147583648, 0, 0), (2147483648, 2147483656, 1, 0), (2147483648, 2147485249, 2, 0)]
def bn2065 : e2_Q8 := (bn2042, bn1146)
noncomputable def f_b392 : ev_H := (bn2065 : e2_Q8)
noncomputable def q_b392_0 : ev_H := (bn2065 : e2_Q8)
noncomputable def rs_b392 : e2_Rs := [((0, 4294967295, 0), q_b392_0)]
noncomputable def s_b392 : e2_Sm := (190, as_b392, E_b392, f_b392, rs_b392)
noncomputable def S_b392 : List e2_Sm := [s_b276]
noncomputable def I_b392 : List e2_In := []
set_option maxRecDepth 1000000 in
theorem ck_b392 : e2_run (e2_cal S_b392 I_b392 4000 0) (e2_fin rs_b392) e2x_190 (fun _ => false) (fun _ _ _ _ _ => false) 4000 (e2_seek e2x_190 0) (e2_al 1 as_b392) [] E_b392 f_b392 = true := by decide +kernel
set_option maxRecDepth 1000000 in
theorem co_b392 : e2_okSB E_b392.length as_b392 f_b392 rs_b392 = true := by decide +kernel
theorem cs_b392 (hen : en_ok) (l : Launch) : e2_smOk l 2 s_b392 := e2_con0 (H := 1) (n := 0) (C := evd_190) (S := S_b392) (I := I_b392) (fuel := 4000) [] hen ei_190 (e2_fa (cs_b276 hen l) e2_fz) e2_fz (by decide) co_b392 ex2_190 ck_b392
/-! b393 X10_readGlyph -/
def as_b393 : List ev_V := [(2, 83, 0)]
def E_b393 : e2_E := [(2147483648, 2147583648, 0, 0), (2147483648, 2147483656, 1, 0), (2147483648, 2147485249, 2, 0)]
def bn2066 : e2_Q7 := (bn517, bn1454)
def bn2067 : e2_Q8 := (bn1938, bn2066)
noncomputable def f_b393 : ev_H := (bn2067 : e2_Q8)
def bn2068 : e2_Q7 := (bn517, bn1459)
def bn2069 : e2_Q8 := (bn2052, bn2068)
noncomputable def q_b393_0 : ev_H := (bn2069 : e2_Q8)
noncomputable def rs_b393 : e2_Rs := [((9, 0, 0), q_b393_0)]
noncomputable def s_b393 : e2_Sm := (196, as_b393, E_b393, f_b393, rs_b393)
noncomputable def S_b393 : List e2_Sm := [s_b76, s_b178, s_b232, s_b275, s_b278, s_b280, s_b392]
noncomputable def I_b393 : List e2_In := [(179, 3, e2x_179)]
set_option maxRecDepth 1000000 in
theorem ck_b393 : e2_run (e2_cal S_b393 I_b393 4000 1) (e2_fin rs_b393) e2x_196 (fun _ => false) (fun _ _ _ _ _ => false) 4000 (e2_seek e2x_196 0) (e2_al 2 as_b393) [] E_b393 f_b393 = true := by decide +kernel
set_option maxRecDepth 1000000 in
theorem co_b393 : e2_okSB E_b393.length as_b393 f_b393 rs_b393 = true := by decide +kernel
theorem cs_b393 (hen : en_ok) (l : Launch) (hh : e2_hand_b l) : e2_smOk l 62 s_b393 := e2_con0 (H := 60) (n := 1) (C := evd_196) (S := S_b393) (I := I_b393) (fuel := 4000) [] hen ei_196 (e2_fa (hh _ hm_b76) (e2_fa ((cs_b178 hen l).mono (by decide)) (e2_fa ((cs_b232 hen l).mono (by decide)) (e2_fa ((cs_b275 hen l).mono (by decide)) (e2_fa ((cs_b278 hen l).mono (by decide)) (e2_fa ((cs_b280 hen l).mono (by decide)) (e2_fa ((cs_b392 hen l).mono (by decide)) e2_fz))))))) (e2_fa ein_179 e2_fz) (by decide) co_b393 ex2_196 ck_b393
/-! b394 X10_glyphHere -/
def as_b394 : List ev_V := [(2, 83, 0)]
def E_b394 : e2_E := [(2147483648, 2147583648, 0, 0), (2147483648, 2147483656, 1, 0), (2147483648, 2147485249, 2, 0)]
def bn2070 : e2_Q7 := (bn2041, bn1463)
def bn2071 : e2_Q8 := (bn2070, bn1150)
noncomputable def f_b394 : ev_H := (bn2071 : e2_Q8)
noncomputable def q_b394_0 : ev_H := (bn2071 : e2_Q8)
noncomputable def rs_b394 : e2_Rs := [((11, 2147483647, 2147483655), q_b394_0)]
noncomputable def s_b394 : e2_Sm := (190, as_b394, E_b394, f_b394, rs_b394)
noncomputable def S_b394 : List e2_Sm := [s_b283]
noncomputable def I_b394 : List e2_In := []
set_option maxRecDepth 1000000 in
theorem ck_b394 : e2_run (e2_cal S_b394 I_b394 4000 0) (e2_fin rs_b394) e2x_190 (fun _ => false) (fun _ _ _ _ _ => false) 4000 (e2_seek e2x_190 0) (e2_al 1 as_b394) [] E_b394 f_b394 = true := by decide +kernel
set_option maxRecDepth 1000000 in
theorem co_b394 : e2_okSB E_b394.length as_b394 f_b394 rs_b394 = true := by decide +kernel
theorem cs_b394 (hen : en_ok) (l : Launch) : e2_smOk l 2 s_b394 := e2_con0 (H := 1) (n := 0) (C := evd_190) (S := S_b394) (I := I_b394) (fuel := 4000) [] hen ei_190 (e2_fa (cs_b283 hen l) e2_fz) e2_fz (by decide) co_b394 ex2_190 ck_b394
/-! b395 X10_readGlyph -/
def as_b395 : List ev_V := [(2, 83, 0)]
def E_b395 : e2_E := [(2147483648, 2147583648, 0, 0), (2147483648, 2147483656, 1, 0), (2147483648, 2147485249, 2, 0)]
def bn2072 : e2_Q7 := (bn1961, bn1524)
def bn2073 : e2_Q8 := (bn1938, bn2072)
noncomputable def f_b395 : ev_H := (bn2073 : e2_Q8)
def bn2074 : e2_Q5 := (bn547, bn1488)
def bn2075 : e2_Q6 := (bn2074, bn356)
def bn2076 : e2_Q7 := (bn2075, bn1531)
def bn2077 : e2_Q8 := (bn2052, bn2076)
noncomputable def q_b395_0 : ev_H := (bn2077 : e2_Q8)
def bn2078 : e2_Q7 := (bn1961, bn1536)
def bn2079 : e2_Q8 := (bn2052, bn2078)
noncomputable def q_b395_1 : ev_H := (bn2079 : e2_Q8)
def bn2080 : e2_Q7 := (bn2075, bn1541)
def bn2081 : e2_Q8 := (bn2052, bn2080)
noncomputable def q_b395_2 : ev_H := (bn2081 : e2_Q8)
def bn2082 : e2_Q7 := (bn2075, bn1546)
def bn2083 : e2_Q8 := (bn2052, bn2082)
noncomputable def q_b395_3 : ev_H := (bn2083 : e2_Q8)
def bn2084 : e2_Q7 := (bn2075, bn1551)
def bn2085 : e2_Q8 := (bn2052, bn2084)
noncomputable def q_b395_4 : ev_H := (bn2085 : e2_Q8)
def bn2086 : e2_Q7 := (bn2075, bn1556)
def bn2087 : e2_Q8 := (bn2052, bn2086)
noncomputable def q_b395_5 : ev_H := (bn2087 : e2_Q8)
def bn2088 : e2_Q7 := (bn2075, bn1561)
def bn2089 : e2_Q8 := (bn2052, bn2088)
noncomputable def q_b395_6 : ev_H := (bn2089 : e2_Q8)
def bn2090 : e2_Q7 := (bn2075, bn1566)
def bn2091 : e2_Q8 := (bn2052, bn2090)
noncomputable def q_b395_7 : ev_H := (bn2091 : e2_Q8)
def bn2092 : e2_Q7 := (bn2075, bn1417)
def bn2093 : e2_Q8 := (bn2052, bn2092)
noncomputable def q_b395_8 : ev_H := (bn2093 : e2_Q8)
def bn2094 : e2_Q7 := (bn2075, bn1459)
def bn2095 : e2_Q8 := (bn2052, bn2094)
noncomputable def q_b395_9 : ev_H := (bn2095 : e2_Q8)
def bn2096 : e2_Q7 := (bn1961, bn1575)
def bn2097 : e2_Q8 := (bn2052, bn2096)
noncomputable def q_b395_10 : ev_H := (bn2097 : e2_Q8)
noncomputable def rs_b395 : e2_Rs := [((9, 0, 0), q_b395_0), ((9, 0, 0), q_b395_1), ((9, 0, 0), q_b395_2), ((9, 0, 0), q_b395_3), ((9, 0, 0), q_b395_4), ((9, 0, 0), q_b395_5), ((9, 0, 0), q_b395_6), ((9, 0, 0), q_b395_7), ((9, 0, 0), q_b395_8), ((9, 0, 0), q_b395_9), ((9, 0, 0), q_b395_10)]
noncomputable def s_b395 : e2_Sm := (196, as_b395, E_b395, f_b395, rs_b395)
noncomputable def S_b395 : List e2_Sm := [s_b79, s_b80, s_b81, s_b82, s_b83, s_b84, s_b181, s_b183, s_b184, s_b186, s_b188, s_b190, s_b191, s_b192, s_b232, s_b233, s_b235, s_b236, s_b237, s_b238, s_b239, s_b240, s_b241, s_b242, s_b243, s_b244, s_b257, s_b259, s_b278, s_b280, s_b282, s_b285, s_b286, s_b287, s_b288, s_b289, s_b290, s_b291, s_b292, s_b293, s_b294, s_b295, s_b297, s_b299, s_b301, s_b303, s_b305, s_b307, s_b309, s_b311, s_b313, s_b315, s_b394]
noncomputable def I_b395 : List e2_In := [(179, 3, e2x_179)]
set_option maxRecDepth 1000000 in
theorem ck_b395 : e2_run (e2_cal S_b395 I_b395 4000 1) (e2_fin rs_b395) e2x_196 (fun _ => false) (fun _ _ _ _ _ => false) 4000 (e2_seek e2x_196 0) (e2_al 2 as_b395) [] E_b395 f_b395 = true := by decide +kernel
set_option maxRecDepth 1000000 in
theorem co_b395 : e2_okSB E_b395.length as_b395 f_b395 rs_b395 = true := by decide +kernel
theorem cs_b395 (hen : en_ok) (l : Launch) (hh : e2_hand_b l) : e2_smOk l 62 s_b395 := e2_con0 (H := 60) (n := 1) (C := evd_196) (S := S_b395) (I := I_b395) (fuel := 4000) [] hen ei_196 (e2_fa (hh _ hm_b79) (e2_fa (hh _ hm_b80) (e2_fa (hh _ hm_b81) (e2_fa (hh _ hm_b82) (e2_fa (hh _ hm_b83) (e2_fa (hh _ hm_b84) (e2_fa ((cs_b181 hen l).mono (by decide)) (e2_fa ((cs_b183 hen l).mono (by decide)) (e2_fa ((cs_b184 hen l).mono (by decide)) (e2_fa ((cs_b186 hen l).mono (by decide)) (e2_fa ((cs_b188 hen l).mono (by decide)) (e2_fa ((cs_b190 hen l).mono (by decide)) (e2_fa ((cs_b191 hen l).mono (by decide)) (e2_fa ((cs_b192 hen l).mono (by decide)) (e2_fa ((cs_b232 hen l).mono (by decide)) (e2_fa ((cs_b233 hen l).mono (by decide)) (e2_fa ((cs_b235 hen l).mono (by decide)) (e2_fa ((cs_b236 hen l).mono (by decide)) (e2_fa ((cs_b237 hen l).mono (by decide)) (e2_fa ((cs_b238 hen l).mono (by decide)) (e2_fa ((cs_b239 hen l).mono (by decide)) (e2_fa ((cs_b240 hen l).mono (by decide)) (e2_fa ((cs_b241 hen l).mono (by decide)) (e2_fa ((cs_b242 hen l).mono (by decide)) (e2_fa ((cs_b243 hen l).mono (by decide)) (e2_fa ((cs_b244 hen l).mono (by decide)) (e2_fa ((cs_b257 hen l).mono (by decide)) (e2_fa ((cs_b259 hen l).mono (by decide)) (e2_fa ((cs_b278 hen l).mono (by decide)) (e2_fa ((cs_b280 hen l).mono (by decide)) (e2_fa ((cs_b282 hen l).mono (by decide)) (e2_fa ((cs_b285 hen l).mono (by decide)) (e2_fa ((cs_b286 hen l).mono (by decide)) (e2_fa ((cs_b287 hen l).mono (by decide)) (e2_fa ((cs_b288 hen l).mono (by decide)) (e2_fa ((cs_b289 hen l).mono (by decide)) (e2_fa ((cs_b290 hen l).mono (by decide)) (e2_fa ((cs_b291 hen l).mono (by decide)) (e2_fa ((cs_b292 hen l).mono (by decide)) (e2_fa ((cs_b293 hen l).mono (by decide)) (e2_fa ((cs_b294 hen l).mono (by decide)) (e2_fa ((cs_b295 hen l).mono (by decide)) (e2_fa ((cs_b297 hen l).mono (by decide)) (e2_fa ((cs_b299 hen l).mono (by decide)) (e2_fa ((cs_b301 hen l).mono (by decide)) (e2_fa ((cs_b303 hen l).mono (by decide)) (e2_fa ((cs_b305 hen l).mono (by decide)) (e2_fa ((cs_b307 hen l).mono (by decide)) (e2_fa ((cs_b309 hen l).mono (by decide)) (e2_fa ((cs_b311 hen l).mono (by decide)) (e2_fa ((cs_b313 hen l).mono (by decide)) (e2_fa ((cs_b315 hen l).mono (by decide)) (e2_fa ((cs_b394 hen l).mono (by decide)) e2_fz))))))))))))))))))))))))))))))))))))))))))))))))))))) (e2_fa ein_179 e2_fz) (by decide) co_b395 ex2_196 ck_b395
/-! b396 X10_readNever -/
def as_b396 : List ev_V := [(2, 83, 0)]
def E_b396 : e2_E := [(2147483648, 2147583648, 0, 0), (2147483648, 2147483656, 1, 0), (2147483648, 2147485249, 2, 0)]
noncomputable def f_b396 : ev_H := (bn2043 : e2_Q8)
def bn2098 : e2_Q8 := (bn2042, bn1084)
noncomputable def q_b396_0 : ev_H := (bn2098 : e2_Q8)
noncomputable def rs_b396 : e2_Rs := [((9, 0, 0), q_b396_0)]
noncomputable def s_b396 : e2_Sm := (197, as_b396, E_b396, f_b396, rs_b396)
noncomputable def S_b396 : List e2_Sm := [s_b285, s_b386]
noncomputable def I_b396 : List e2_In := [(174, 1, e2x_174)]
set_option maxRecDepth 1000000 in
theorem ck_b396 : e2_run (e2_cal S_b396 I_b396 4000 1) (e2_fin rs_b396) e2x_197 (fun _ => false) (fun _ _ _ _ _ => false) 4000 (e2_seek e2x_197 0) (e2_al 3 as_b396) [] E_b396 f_b396 = true := by decide +kernel
set_option maxRecDepth 1000000 in
theorem co_b396 : e2_okSB E_b396.length as_b396 f_b396 rs_b396 = true := by decide +kernel
theorem cs_b396 (hen : en_ok) (l : Launch) : e2_smOk l 5 s_b396 := e2_con0 (H := 3) (n := 1) (C := evd_197) (S := S_b396) (I := I_b396) (fuel := 4000) [] hen ei_197 (e2_fa (cs_b285 hen l) (e2_fa ((cs_b386 hen l).mono (by decide)) e2_fz)) (e2_fa ein_174 e2_fz) (by decide) co_b396 ex2_197 ck_b396
/-! b397 X10_readNever -/
def as_b397 : List ev_V := [(2, 83, 0)]
def E_b397 : e2_E := [(2147483648, 2147583648, 0, 0), (2147483648, 2147483656, 1, 0), (2147483648, 2147485249, 2, 0)]
noncomputable def f_b397 : ev_H := (bn2055 : e2_Q8)
def bn2099 : e2_Q8 := (bn2042, bn1090)
noncomputable def q_b397_0 : ev_H := (bn2099 : e2_Q8)
noncomputable def rs_b397 : e2_Rs := [((9, 0, 0), q_b397_0)]
noncomputable def s_b397 : e2_Sm := (197, as_b397, E_b397, f_b397, rs_b397)
noncomputable def S_b397 : List e2_Sm := [s_b318, s_b388]
noncomputable def I_b397 : List e2_In := [(174, 1, e2x_174)]
set_option maxRecDepth 1000000 in
theorem ck_b397 : e2_run (e2_cal S_b397 I_b397 4000 1) (e2_fin rs_b397) e2x_197 (fun _ => false) (fun _ _ _ _ _ => false) 4000 (e2_seek e2x_197 0) (e2_al 3 as_b397) [] E_b397 f_b397 = true := by decide +kernel
set_option maxRecDepth 1000000 in
theorem co_b397 : e2_okSB E_b397.length as_b397 f_b397 rs_b397 = true := by decide +kernel
theorem cs_b397 (hen : en_ok) (l : Launch) : e2_smOk l 5 s_b397 := e2_con0 (H := 3) (n := 1) (C := evd_197) (S := S_b397) (I := I_b397) (fuel := 4000) [] hen ei_197 (e2_fa (cs_b318 hen l) (e2_fa ((cs_b388 hen l).mono (by decide)) e2_fz)) (e2_fa ein_174 e2_fz) (by decide) co_b397 ex2_197 ck_b397
/-! b398 X10_readNever -/
def as_b398 : List ev_V := [(2, 83, 0)]
def E_b398 : e2_E := [(2147483648, 2147583648, 0, 0), (2147483648, 2147483656, 1, 0), (2147483648, 2147485249, 2, 0)]
noncomputable def f_b398 : ev_H := (bn2060 : e2_Q8)
def bn2100 : e2_Q8 := (bn2042, bn1096)
noncomputable def q_b398_0 : ev_H := (bn2100 : e2_Q8)
noncomputable def rs_b398 : e2_Rs := [((9, 0, 0), q_b398_0)]
noncomputable def s_b398 : e2_Sm := (197, as_b398, E_b398, f_b398, rs_b398)
noncomputable def S_b398 : List e2_Sm := [s_b320, s_b390]
noncomputable def I_b398 : List e2_In := [(174, 1, e2x_174)]
set_option maxRecDepth 1000000 in
theorem ck_b398 : e2_run (e2_cal S_b398 I_b398 4000 1) (e2_fin rs_b398) e2x_197 (fun _ => false) (fun _ _ _ _ _ => false) 4000 (e2_seek e2x_197 0) (e2_al 3 as_b398) [] E_b398 f_b398 = true := by decide +kernel
set_option maxRecDepth 1000000 in
theorem co_b398 : e2_okSB E_b398.length as_b398 f_b398 rs_b398 = true := by decide +kernel
theorem cs_b398 (hen : en_ok) (l : Launch) : e2_smOk l 5 s_b398 := e2_con0 (H := 3) (n := 1) (C := evd_197) (S := S_b398) (I := I_b398) (fuel := 4000) [] hen ei_197 (e2_fa (cs_b320 hen l) (e2_fa ((cs_b390 hen l).mono (by decide)) e2_fz)) (e2_fa ein_174 e2_fz) (by decide) co_b398 ex2_197 ck_b398
/-! b399 X10_readNever -/
def as_b399 : List ev_V := [(2, 83, 0)]
def E_b399 : e2_E := [(2147483648, 2147583648, 0, 0), (2147483648, 2147483656, 1, 0), (2147483648, 2147485249, 2, 0)]
noncomputable def f_b399 : ev_H := (bn2065 : e2_Q8)
def bn2101 : e2_Q8 := (bn2042, bn1082)
noncomputable def q_b399_0 : ev_H := (bn2101 : e2_Q8)
noncomputable def rs_b399 : e2_Rs := [((9, 0, 0), q_b399_0)]
noncomputable def s_b399 : e2_Sm := (197, as_b399, E_b399, f_b399, rs_b399)
noncomputable def S_b399 : List e2_Sm := [s_b288, s_b392]
noncomputable def I_b399 : List e2_In := [(174, 1, e2x_174)]
set_option maxRecDepth 1000000 in
theorem ck_b399 : e2_run (e2_cal S_b399 I_b399 4000 1) (e2_fin rs_b399) e2x_197 (fun _ => false) (fun _ _ _ _ _ => false) 4000 (e2_seek e2x_197 0) (e2_al 3 as_b399) [] E_b399 f_b399 = true := by decide +kernel
set_option maxRecDepth 1000000 in
theorem co_b399 : e2_okSB E_b399.length as_b399 f_b399 rs_b399 = true := by decide +kernel
theorem cs_b399 (hen : en_ok) (l : Launch) : e2_smOk l 5 s_b399 := e2_con0 (H := 3) (n := 1) (C := evd_197) (S := S_b399) (I := I_b399) (fuel := 4000) [] hen ei_197 (e2_fa (cs_b288 hen l) (e2_fa ((cs_b392 hen l).mono (by decide)) e2_fz)) (e2_fa ein_174 e2_fz) (by decide) co_b399 ex2_197 ck_b399
/-! b400 X10_glyphHere -/
def as_b400 : List ev_V := [(2, 83, 0)]
def E_b400 : e2_E := [(2147483648, 2147583648, 0, 0), (2147483648, 2147483656, 1, 0), (2147483648, 2147485249, 2, 0)]
def bn2102 : e2_Q8 := (bn2042, bn1152)
noncomputable def f_b400 : ev_H := (bn2102 : e2_Q8)
noncomputable def q_b400_0 : ev_H := (bn2102 : e2_Q8)
noncomputable def rs_b400 : e2_Rs := [((0, 4294967295, 0), q_b400_0)]
noncomputable def s_b400 : e2_Sm := (190, as_b400, E_b400, f_b400, rs_b400)
noncomputable def S_b400 : List e2_Sm := [s_b323]
noncomputable def I_b400 : List e2_In := []
set_option maxRecDepth 1000000 in
theorem ck_b400 : e2_run (e2_cal S_b400 I_b400 4000 0) (e2_fin rs_b400) e2x_190 (fun _ => false) (fun _ _ _ _ _ => false) 4000 (e2_seek e2x_190 0) (e2_al 1 as_b400) [] E_b400 f_b400 = true := by decide +kernel
set_option maxRecDepth 1000000 in
theorem co_b400 : e2_okSB E_b400.length as_b400 f_b400 rs_b400 = true := by decide +kernel
theorem cs_b400 (hen : en_ok) (l : Launch) : e2_smOk l 2 s_b400 := e2_con0 (H := 1) (n := 0) (C := evd_190) (S := S_b400) (I := I_b400) (fuel := 4000) [] hen ei_190 (e2_fa (cs_b323 hen l) e2_fz) e2_fz (by decide) co_b400 ex2_190 ck_b400
/-! b401 X10_glyphHere -/
def as_b401 : List ev_V := [(2, 83, 0)]
def E_b401 : e2_E := [(2147483648, 2147583648, 0, 0), (2147483648, 2147483656, 1, 0), (2147483648, 2147485249, 2, 0)]
def bn2103 : e2_Q8 := (bn2042, bn1198)
noncomputable def f_b401 : ev_H := (bn2103 : e2_Q8)
noncomputable def q_b401_0 : ev_H := (bn2103 : e2_Q8)
noncomputable def rs_b401 : e2_Rs := [((0, 4294967295, 0), q_b401_0)]
noncomputable def s_b401 : e2_Sm := (190, as_b401, E_b401, f_b401, rs_b401)
noncomputable def S_b401 : List e2_Sm := [s_b325]
noncomputable def I_b401 : List e2_In := []
set_option maxRecDepth 1000000 in
theorem ck_b401 : e2_run (e2_cal S_b401 I_b401 4000 0) (e2_fin rs_b401) e2x_190 (fun _ => false) (fun _ _ _ _ _ => false) 4000 (e2_seek e2x_190 0) (e2_al 1 as_b401) [] E_b401 f_b401 = true := by decide +kernel
set_option maxRecDepth 1000000 in
theorem co_b401 : e2_okSB E_b401.length as_b401 f_b401 rs_b401 = true := by decide +kernel
theorem cs_b401 (hen : en_ok) (l : Launch) : e2_smOk l 2 s_b401 := e2_con0 (H := 1) (n := 0) (C := evd_190) (S := S_b401) (I := I_b401) (fuel := 4000) [] hen ei_190 (e2_fa (cs_b325 hen l) e2_fz) e2_fz (by decide) co_b401 ex2_190 ck_b401
/-! b402 X10_readNever -/
def as_b402 : List ev_V := [(2, 83, 0)]
def E_b402 : e2_E := [(2147483648, 2147583648, 0, 0), (2147483648, 2147483656, 1, 0), (2147483648, 2147485249, 2, 0)]
def bn2104 : e2_Q6 := (bn2040, bn1584)
def bn2105 : e2_Q7 := (bn2104, bn1463)
def bn2106 : e2_Q8 := (bn2105, bn1588)
noncomputable def f_b402 : ev_H := (bn2106 : e2_Q8)
def bn2107 : e2_Q8 := (bn2105, bn1590)
noncomputable def q_b402_0 : ev_H := (bn2107 : e2_Q8)
def bn2108 : e2_Q8 := (bn2105, bn1592)
noncomputable def q_b402_1 : ev_H := (bn2108 : e2_Q8)
def bn2109 : e2_Q8 := (bn2105, bn1594)
noncomputable def q_b402_2 : ev_H := (bn2109 : e2_Q8)
def bn2110 : e2_Q8 := (bn2105, bn1596)
noncomputable def q_b402_3 : ev_H := (bn2110 : e2_Q8)
def bn2111 : e2_Q8 := (bn2105, bn1598)
noncomputable def q_b402_4 : ev_H := (bn2111 : e2_Q8)
def bn2112 : e2_Q8 := (bn2105, bn1600)
noncomputable def q_b402_5 : ev_H := (bn2112 : e2_Q8)
def bn2113 : e2_Q8 := (bn2105, bn1602)
noncomputable def q_b402_6 : ev_H := (bn2113 : e2_Q8)
def bn2114 : e2_Q8 := (bn2105, bn1604)
noncomputable def q_b402_7 : ev_H := (bn2114 : e2_Q8)
def bn2115 : e2_Q8 := (bn2105, bn1606)
noncomputable def q_b402_8 : ev_H := (bn2115 : e2_Q8)
def bn2116 : e2_Q8 := (bn2105, bn1608)
noncomputable def q_b402_9 : ev_H := (bn2116 : e2_Q8)
noncomputable def rs_b402 : e2_Rs := [((9, 0, 0), q_b402_0), ((9, 0, 0), q_b402_1), ((9, 0, 0), q_b402_2), ((9, 0, 0), q_b402_3), ((9, 0, 0), q_b402_4), ((9, 0, 0), q_b402_5), ((9, 0, 0), q_b402_6), ((9, 0, 0), q_b402_7), ((9, 0, 0), q_b402_8), ((9, 0, 0), q_b402_9)]
noncomputable def s_b402 : e2_Sm := (197, as_b402, E_b402, f_b402, rs_b402)
noncomputable def S_b402 : List e2_Sm := [s_b285, s_b286, s_b287, s_b288, s_b327, s_b328, s_b329, s_b330, s_b386, s_b392, s_b394, s_b400, s_b401]
noncomputable def I_b402 : List e2_In := [(173, 3, e2x_173), (174, 1, e2x_174)]
set_option maxRecDepth 1000000 in
theorem ck_b402 : e2_run (e2_cal S_b402 I_b402 4000 1) (e2_fin rs_b402) e2x_197 (fun _ => false) (fun _ _ _ _ _ => false) 4000 (e2_seek e2x_197 0) (e2_al 3 as_b402) [] E_b402 f_b402 = true := by decide +kernel
set_option maxRecDepth 1000000 in
theorem co_b402 : e2_okSB E_b402.length as_b402 f_b402 rs_b402 = true := by decide +kernel
theorem cs_b402 (hen : en_ok) (l : Launch) : e2_smOk l 8 s_b402 := e2_con0 (H := 6) (n := 1) (C := evd_197) (S := S_b402) (I := I_b402) (fuel := 4000) [] hen ei_197 (e2_fa ((cs_b285 hen l).mono (by decide)) (e2_fa ((cs_b286 hen l).mono (by decide)) (e2_fa ((cs_b287 hen l).mono (by decide)) (e2_fa ((cs_b288 hen l).mono (by decide)) (e2_fa ((cs_b327 hen l).mono (by decide)) (e2_fa (cs_b328 hen l) (e2_fa (cs_b329 hen l) (e2_fa ((cs_b330 hen l).mono (by decide)) (e2_fa ((cs_b386 hen l).mono (by decide)) (e2_fa ((cs_b392 hen l).mono (by decide)) (e2_fa ((cs_b394 hen l).mono (by decide)) (e2_fa ((cs_b400 hen l).mono (by decide)) (e2_fa ((cs_b401 hen l).mono (by decide)) e2_fz))))))))))))) (e2_fa ein_173 (e2_fa ein_174 e2_fz)) (by decide) co_b402 ex2_197 ck_b402
/-! b403 X10_readLine -/
def as_b403 : List ev_V := [(2, 83, 0)]
def E_b403 : e2_E := [(2147483648, 2147583648, 0, 0), (2147483648, 2147483656, 1, 0), (2147483648, 2147485249, 2, 0)]
def bn2117 : e2_Q7 := (bn2026, bn1735)
def bn2118 : e2_Q8 := (bn2020, bn2117)
noncomputable def f_b403 : ev_H := (bn2118 : e2_Q8)
def bn2119 : e2_Q7 := (bn2026, bn1743)
def bn2120 : e2_Q8 := (bn2020, bn2119)
noncomputable def q_b403_0 : ev_H := (bn2120 : e2_Q8)
def bn2121 : e2_Q7 := (bn2026, bn1748)
def bn2122 : e2_Q8 := (bn2020, bn2121)
noncomputable def q_b403_1 : ev_H := (bn2122 : e2_Q8)
def bn2123 : e2_Q7 := (bn2026, bn1752)
def bn2124 : e2_Q8 := (bn2020, bn2123)
noncomputable def q_b403_2 : ev_H := (bn2124 : e2_Q8)
def bn2125 : e2_Q7 := (bn2026, bn1756)
def bn2126 : e2_Q8 := (bn2020, bn2125)
noncomputable def q_b403_3 : ev_H := (bn2126 : e2_Q8)
noncomputable def q_b403_4 : ev_H := (bn2028 : e2_Q8)
noncomputable def q_b403_5 : ev_H := (bn2030 : e2_Q8)
noncomputable def q_b403_6 : ev_H := (bn2032 : e2_Q8)
noncomputable def q_b403_7 : ev_H := (bn2034 : e2_Q8)
noncomputable def q_b403_8 : ev_H := (bn2036 : e2_Q8)
def bn2127 : e2_Q7 := (bn2026, bn1780)
def bn2128 : e2_Q8 := (bn2020, bn2127)
noncomputable def q_b403_9 : ev_H := (bn2128 : e2_Q8)
def bn2129 : e2_Q7 := (bn2026, bn1784)
def bn2130 : e2_Q8 := (bn2020, bn2129)
noncomputable def q_b403_10 : ev_H := (bn2130 : e2_Q8)
def bn2131 : e2_Q4 := (bn747, bn2048)
def bn2132 : e2_Q5 := (bn329, bn2131)
def bn2133 : e2_Q6 := (bn2132, bn1717)
def bn2134 : e2_Q7 := (bn2133, bn1724)
def bn2135 : e2_Q8 := (bn2134, bn2121)
noncomputable def q_b403_11 : ev_H := (bn2135 : e2_Q8)
def bn2136 : e2_Q8 := (bn2134, bn2123)
noncomputable def q_b403_12 : ev_H := (bn2136 : e2_Q8)
def bn2137 : e2_Q8 := (bn2134, bn2127)
noncomputable def q_b403_13 : ev_H := (bn2137 : e2_Q8)
def bn2138 : e2_Q8 := (bn2134, bn2129)
noncomputable def q_b403_14 : ev_H := (bn2138 : e2_Q8)
def bn2139 : e2_Q5 := (bn547, bn1726)
def bn2140 : e2_Q6 := (bn2139, bn1729)
def bn2141 : e2_Q7 := (bn2140, bn1760)
def bn2142 : e2_Q8 := (bn2134, bn2141)
noncomputable def q_b403_15 : ev_H := (bn2142 : e2_Q8)
def bn2143 : e2_Q7 := (bn2140, bn1764)
def bn2144 : e2_Q8 := (bn2134, bn2143)
noncomputable def q_b403_16 : ev_H := (bn2144 : e2_Q8)
def bn2145 : e2_Q7 := (bn2140, bn1768)
def bn2146 : e2_Q8 := (bn2134, bn2145)
noncomputable def q_b403_17 : ev_H := (bn2146 : e2_Q8)
def bn2147 : e2_Q7 := (bn2140, bn1772)
def bn2148 : e2_Q8 := (bn2134, bn2147)
noncomputable def q_b403_18 : ev_H := (bn2148 : e2_Q8)
def bn2149 : e2_Q7 := (bn2140, bn1776)
def bn2150 : e2_Q8 := (bn2134, bn2149)
noncomputable def q_b403_19 : ev_H := (bn2150 : e2_Q8)
def bn2151 : e2_Q7 := (bn2026, bn1808)
def bn2152 : e2_Q8 := (bn2134, bn2151)
noncomputable def q_b403_20 : ev_H := (bn2152 : e2_Q8)
def bn2153 : e2_Q8 := (bn2134, bn2125)
noncomputable def q_b403_21 : ev_H := (bn2153 : e2_Q8)
noncomputable def rs_b403 : e2_Rs := [((9, 0, 0), q_b403_0), ((9, 0, 0), q_b403_1), ((9, 0, 0), q_b403_2), ((9, 0, 0), q_b403_3), ((9, 0, 0), q_b403_4), ((9, 0, 0), q_b403_5), ((9, 0, 0), q_b403_6), ((9, 0, 0), q_b403_7), ((9, 0, 0), q_b403_8), ((9, 0, 0), q_b403_9), ((9, 0, 0), q_b403_10), ((9, 0, 0), q_b403_11), ((9, 0, 0), q_b403_12), ((9, 0, 0), q_b403_13), ((9, 0, 0), q_b403_14), ((9, 0, 0), q_b403_15), ((9, 0, 0), q_b403_16), ((9, 0, 0), q_b403_17), ((9, 0, 0), q_b403_18), ((9, 0, 0), q_b403_19), ((9, 0, 0), q_b403_20), ((9, 0, 0), q_b403_21)]
noncomputable def s_b403 : e2_Sm := (187, as_b403, E_b403, f_b403, rs_b403)
noncomputable def S_b403 : List e2_Sm := [s_b173, s_b178, s_b179, s_b180, s_b181, s_b182, s_b183, s_b184, s_b185, s_b186, s_b187, s_b188, s_b189, s_b190, s_b191, s_b192, s_b193, s_b194, s_b195, s_b196, s_b197, s_b198, s_b199, s_b217, s_b218, s_b219, s_b220, s_b221, s_b249, s_b250, s_b251, s_b252, s_b253, s_b332, s_b333, s_b334, s_b335, s_b336, s_b338, s_b341, s_b344, s_b346, s_b348, s_b387, s_b389, s_b391, s_b393, s_b395, s_b396, s_b397, s_b398, s_b399, s_b402]
noncomputable def I_b403 : List e2_In := [(170, 2, e2x_170), (173, 3, e2x_173), (174, 1, e2x_174), (178, 2, e2x_178), (179, 3, e2x_179), (180, 1, e2x_180), (186, 1, e2x_186)]
set_option maxRecDepth 1000000 in
theorem ck_b403 : e2_run (e2_cal S_b403 I_b403 4000 2) (e2_fin rs_b403) e2x_187 (fun _ => false) (fun _ _ _ _ _ => false) 4000 (e2_seek e2x_187 0) (e2_al 3 as_b403) [] E_b403 f_b403 = true := by decide +kernel
set_option maxRecDepth 1000000 in
theorem co_b403 : e2_okSB E_b403.length as_b403 f_b403 rs_b403 = true := by decide +kernel
theorem cs_b403 (hen : en_ok) (l : Launch) (hh : e2_hand_b l) : e2_smOk l 65 s_b403 := e2_con0 (H := 62) (n := 2) (C := evd_187) (S := S_b403) (I := I_b403) (fuel := 4000) [] hen ei_187 (e2_fa ((cs_b173 hen l).mono (by decide)) (e2_fa ((cs_b178 hen l).mono (by decide)) (e2_fa ((cs_b179 hen l).mono (by decide)) (e2_fa ((cs_b180 hen l).mono (by decide)) (e2_fa ((cs_b181 hen l).mono (by decide)) (e2_fa ((cs_b182 hen l).mono (by decide)) (e2_fa ((cs_b183 hen l).mono (by decide)) (e2_fa ((cs_b184 hen l).mono (by decide)) (e2_fa ((cs_b185 hen l).mono (by decide)) (e2_fa ((cs_b186 hen l).mono (by decide)) (e2_fa ((cs_b187 hen l).mono (by decide)) (e2_fa ((cs_b188 hen l).mono (by decide)) (e2_fa ((cs_b189 hen l).mono (by decide)) (e2_fa ((cs_b190 hen l).mono (by decide)) (e2_fa ((cs_b191 hen l).mono (by decide)) (e2_fa ((cs_b192 hen l).mono (by decide)) (e2_fa ((cs_b193 hen l).mono (by decide)) (e2_fa ((cs_b194 hen l).mono (by decide)) (e2_fa ((cs_b195 hen l).mono (by decide)) (e2_fa ((cs_b196 hen l).mono (by decide)) (e2_fa ((cs_b197 hen l).mono (by decide)) (e2_fa ((cs_b198 hen l).mono (by decide)) (e2_fa ((cs_b199 hen l).mono (by decide)) (e2_fa ((cs_b217 hen l).mono (by decide)) (e2_fa ((cs_b218 hen l).mono (by decide)) (e2_fa ((cs_b219 hen l).mono (by decide)) (e2_fa ((cs_b220 hen l).mono (by decide)) (e2_fa ((cs_b221 hen l).mono (by decide)) (e2_fa ((cs_b249 hen l).mono (by decide)) (e2_fa ((cs_b250 hen l).mono (by decide)) (e2_fa ((cs_b251 hen l).mono (by decide)) (e2_fa ((cs_b252 hen l).mono (by decide)) (e2_fa ((cs_b253 hen l).mono (by decide)) (e2_fa ((cs_b332 hen l hh).mono (by decide)) (e2_fa ((cs_b333 hen l hh).mono (by decide)) (e2_fa ((cs_b334 hen l hh).mono (by decide)) (e2_fa ((cs_b335 hen l hh).mono (by decide)) (e2_fa ((cs_b336 hen l hh).mono (by decide)) (e2_fa ((cs_b338 hen l).mono (by decide)) (e2_fa ((cs_b341 hen l).mono (by decide)) (e2_fa ((cs_b344 hen l).mono (by decide)) (e2_fa ((cs_b346 hen l).mono (by decide)) (e2_fa ((cs_b348 hen l).mono (by decide)) (e2_fa (cs_b387 hen l hh) (e2_fa (cs_b389 hen l hh) (e2_fa (cs_b391 hen l hh) (e2_fa (cs_b393 hen l hh) (e2_fa (cs_b395 hen l hh) (e2_fa ((cs_b396 hen l).mono (by decide)) (e2_fa ((cs_b397 hen l).mono (by decide)) (e2_fa ((cs_b398 hen l).mono (by decide)) (e2_fa ((cs_b399 hen l).mono (by decide)) (e2_fa ((cs_b402 hen l).mono (by decide)) e2_fz))))))))))))))))))))))))))))))))))))))))))))))))))))) (e2_fa ein_170 (e2_fa ein_173 (e2_fa ein_174 (e2_fa ein_178 (e2_fa ein_179 (e2_fa ein_180 (e2_fa ein_186 e2_fz))))))) (by decide) co_b403 ex2_187 ck_b403
/-! b404 X10_glyphHere -/
def as_b404 : List ev_V := [(2, 83, 0)]
def E_b404 : e2_E := [(2147483648, 2147583648, 0, 0), (2147483648, 2147483656, 1, 0), (2147483648, 2147485249, 2, 0)]
def bn2154 : e2_Q5 := (bn14, bn2049)
def bn2155 : e2_Q6 := (bn2154, bn338)
def bn2156 : e2_Q7 := (bn2155, bn345)
def bn2157 : e2_Q8 := (bn2156, bn1098)
noncomputable def f_b404 : ev_H := (bn2157 : e2_Q8)
noncomputable def q_b404_0 : ev_H := (bn2157 : e2_Q8)
noncomputable def rs_b404 : e2_Rs := [((0, 4294967295, 0), q_b404_0)]
noncomputable def s_b404 : e2_Sm := (190, as_b404, E_b404, f_b404, rs_b404)
noncomputable def S_b404 : List e2_Sm := [s_b255]
noncomputable def I_b404 : List e2_In := []
set_option maxRecDepth 1000000 in
theorem ck_b404 : e2_run (e2_cal S_b404 I_b404 4000 0) (e2_fin rs_b404) e2x_190 (fun _ => false) (fun _ _ _ _ _ => false) 4000 (e2_seek e2x_190 0) (e2_al 1 as_b404) [] E_b404 f_b404 = true := by decide +kernel
set_option maxRecDepth 1000000 in
theorem co_b404 : e2_okSB E_b404.length as_b404 f_b404 rs_b404 = true := by decide +kernel
theorem cs_b404 (hen : en_ok) (l : Launch) : e2_smOk l 2 s_b404 := e2_con0 (H := 1) (n := 0) (C := evd_190) (S := S_b404) (I := I_b404) (fuel := 4000) [] hen ei_190 (e2_fa (cs_b255 hen l) e2_fz) e2_fz (by decide) co_b404 ex2_190 ck_b404
/-! b405 X10_readGlyph -/
def as_b405 : List ev_V := [(2, 83, 0)]
def E_b405 : e2_E := [(2147483648, 2147583648, 0, 0), (2147483648, 2147483656, 1, 0), (2147483648, 2147485249, 2, 0)]
def bn2158 : e2_Q7 := (bn549, bn1405)
def bn2159 : e2_Q8 := (bn2052, bn2158)
noncomputable def f_b405 : ev_H := (bn2159 : e2_Q8)
def bc245 : ev_C := (50, [(1, 1, 4294967296), (0, 5, 0)])
def bn2160 : e2_Q1 := (bc245, bc3)
def bn2161 : e2_Q2 := (bn22, bn2160)
def bn2162 : e2_Q3 := (bn2161, bn27)
def bn2163 : e2_Q4 := (bn21, bn2162)
def bn2164 : e2_Q5 := (bn329, bn2163)
def bn2165 : e2_Q6 := (bn2164, bn338)
def bn2166 : e2_Q7 := (bn2165, bn1399)
def bn2167 : e2_Q7 := (bn549, bn1417)
def bn2168 : e2_Q8 := (bn2166, bn2167)
noncomputable def q_b405_0 : ev_H := (bn2168 : e2_Q8)
noncomputable def rs_b405 : e2_Rs := [((9, 0, 0), q_b405_0)]
noncomputable def s_b405 : e2_Sm := (196, as_b405, E_b405, f_b405, rs_b405)
noncomputable def S_b405 : List e2_Sm := [s_b97, s_b179, s_b233, s_b254, s_b257, s_b259, s_b404]
noncomputable def I_b405 : List e2_In := [(179, 3, e2x_179)]
set_option maxRecDepth 1000000 in
theorem ck_b405 : e2_run (e2_cal S_b405 I_b405 4000 1) (e2_fin rs_b405) e2x_196 (fun _ => false) (fun _ _ _ _ _ => false) 4000 (e2_seek e2x_196 0) (e2_al 2 as_b405) [] E_b405 f_b405 = true := by decide +kernel
set_option maxRecDepth 1000000 in
theorem co_b405 : e2_okSB E_b405.length as_b405 f_b405 rs_b405 = true := by decide +kernel
theorem cs_b405 (hen : en_ok) (l : Launch) (hh : e2_hand_b l) : e2_smOk l 62 s_b405 := e2_con0 (H := 60) (n := 1) (C := evd_196) (S := S_b405) (I := I_b405) (fuel := 4000) [] hen ei_196 (e2_fa (hh _ hm_b97) (e2_fa ((cs_b179 hen l).mono (by decide)) (e2_fa ((cs_b233 hen l).mono (by decide)) (e2_fa ((cs_b254 hen l).mono (by decide)) (e2_fa ((cs_b257 hen l).mono (by decide)) (e2_fa ((cs_b259 hen l).mono (by decide)) (e2_fa ((cs_b404 hen l).mono (by decide)) e2_fz))))))) (e2_fa ein_179 e2_fz) (by decide) co_b405 ex2_196 ck_b405
/-! b406 X10_glyphHere -/
def as_b406 : List ev_V := [(2, 83, 0)]
def E_b406 : e2_E := [(2147483648, 2147583648, 0, 0), (2147483648, 2147483656, 1, 0), (2147483648, 2147485249, 2, 0)]
def bn2169 : e2_Q8 := (bn2156, bn1088)
noncomputable def f_b406 : ev_H := (bn2169 : e2_Q8)
noncomputable def q_b406_0 : ev_H := (bn2169 : e2_Q8)
noncomputable def rs_b406 : e2_Rs := [((0, 4294967295, 0), q_b406_0)]
noncomputable def s_b406 : e2_Sm := (190, as_b406, E_b406, f_b406, rs_b406)
noncomputable def S_b406 : List e2_Sm := [s_b262]
noncomputable def I_b406 : List e2_In := []
set_option maxRecDepth 1000000 in
theorem ck_b406 : e2_run (e2_cal S_b406 I_b406 4000 0) (e2_fin rs_b406) e2x_190 (fun _ => false) (fun _ _ _ _ _ => false) 4000 (e2_seek e2x_190 0) (e2_al 1 as_b406) [] E_b406 f_b406 = true := by decide +kernel
set_option maxRecDepth 1000000 in
theorem co_b406 : e2_okSB E_b406.length as_b406 f_b406 rs_b406 = true := by decide +kernel
theorem cs_b406 (hen : en_ok) (l : Launch) : e2_smOk l 2 s_b406 := e2_con0 (H := 1) (n := 0) (C := evd_190) (S := S_b406) (I := I_b406) (fuel := 4000) [] hen ei_190 (e2_fa (cs_b262 hen l) e2_fz) e2_fz (by decide) co_b406 ex2_190 ck_b406
/-! b407 X10_readGlyph -/
def as_b407 : List ev_V := [(2, 83, 0)]
def E_b407 : e2_E := [(2147483648, 2147583648, 0, 0), (2147483648, 2147483656, 1, 0), (2147483648, 2147485249, 2, 0)]
def bn2170 : e2_Q7 := (bn549, bn1426)
def bn2171 : e2_Q8 := (bn2052, bn2170)
noncomputable def f_b407 : ev_H := (bn2171 : e2_Q8)
def bn2172 : e2_Q7 := (bn549, bn1431)
def bn2173 : e2_Q8 := (bn2166, bn2172)
noncomputable def q_b407_0 : ev_H := (bn2173 : e2_Q8)
noncomputable def rs_b407 : e2_Rs := [((9, 0, 0), q_b407_0)]
noncomputable def s_b407 : e2_Sm := (196, as_b407, E_b407, f_b407, rs_b407)
noncomputable def S_b407 : List e2_Sm := [s_b105, s_b187, s_b245, s_b261, s_b264, s_b266, s_b406]
noncomputable def I_b407 : List e2_In := [(179, 3, e2x_179)]
set_option maxRecDepth 1000000 in
theorem ck_b407 : e2_run (e2_cal S_b407 I_b407 4000 1) (e2_fin rs_b407) e2x_196 (fun _ => false) (fun _ _ _ _ _ => false) 4000 (e2_seek e2x_196 0) (e2_al 2 as_b407) [] E_b407 f_b407 = true := by decide +kernel
set_option maxRecDepth 1000000 in
theorem co_b407 : e2_okSB E_b407.length as_b407 f_b407 rs_b407 = true := by decide +kernel
theorem cs_b407 (hen : en_ok) (l : Launch) (hh : e2_hand_b l) : e2_smOk l 62 s_b407 := e2_con0 (H := 60) (n := 1) (C := evd_196) (S := S_b407) (I := I_b407) (fuel := 4000) [] hen ei_196 (e2_fa (hh _ hm_b105) (e2_fa ((cs_b187 hen l).mono (by decide)) (e2_fa ((cs_b245 hen l).mono (by decide)) (e2_fa ((cs_b261 hen l).mono (by decide)) (e2_fa ((cs_b264 hen l).mono (by decide)) (e2_fa ((cs_b266 hen l).mono (by decide)) (e2_fa ((cs_b406 hen l).mono (by decide)) e2_fz))))))) (e2_fa ein_179 e2_fz) (by decide) co_b407 ex2_196 ck_b407
/-! b408 X10_glyphHere -/
def as_b408 : List ev_V := [(2, 83, 0)]
def E_b408 : e2_E := [(2147483648, 2147583648, 0, 0), (2147483648, 2147483656, 1, 0), (2147483648, 2147485249, 2, 0)]
def bn2174 : e2_Q8 := (bn2156, bn1094)
noncomputable def f_b408 : ev_H := (bn2174 : e2_Q8)
noncomputable def q_b408_0 : ev_H := (bn2174 : e2_Q8)
noncomputable def rs_b408 : e2_Rs := [((0, 4294967295, 0), q_b408_0)]
noncomputable def s_b408 : e2_Sm := (190, as_b408, E_b408, f_b408, rs_b408)
noncomputable def S_b408 : List e2_Sm := [s_b269]
noncomputable def I_b408 : List e2_In := []
set_option maxRecDepth 1000000 in
theorem ck_b408 : e2_run (e2_cal S_b408 I_b408 4000 0) (e2_fin rs_b408) e2x_190 (fun _ => false) (fun _ _ _ _ _ => false) 4000 (e2_seek e2x_190 0) (e2_al 1 as_b408) [] E_b408 f_b408 = true := by decide +kernel
set_option maxRecDepth 1000000 in
theorem co_b408 : e2_okSB E_b408.length as_b408 f_b408 rs_b408 = true := by decide +kernel
theorem cs_b408 (hen : en_ok) (l : Launch) : e2_smOk l 2 s_b408 := e2_con0 (H := 1) (n := 0) (C := evd_190) (S := S_b408) (I := I_b408) (fuel := 4000) [] hen ei_190 (e2_fa (cs_b269 hen l) e2_fz) e2_fz (by decide) co_b408 ex2_190 ck_b408
/-! b409 X10_readGlyph -/
def as_b409 : List ev_V := [(2, 83, 0)]
def E_b409 : e2_E := [(2147483648, 2147583648, 0, 0), (2147483648, 2147483656, 1, 0), (2147483648, 2147485249, 2, 0)]
def bn2175 : e2_Q7 := (bn549, bn1440)
def bn2176 : e2_Q8 := (bn2052, bn2175)
noncomputable def f_b409 : ev_H := (bn2176 : e2_Q8)
def bn2177 : e2_Q7 := (bn549, bn1445)
def bn2178 : e2_Q8 := (bn2166, bn2177)
noncomputable def q_b409_0 : ev_H := (bn2178 : e2_Q8)
noncomputable def rs_b409 : e2_Rs := [((9, 0, 0), q_b409_0)]
noncomputable def s_b409 : e2_Sm := (196, as_b409, E_b409, f_b409, rs_b409)
noncomputable def S_b409 : List e2_Sm := [s_b98, s_b185, s_b234, s_b268, s_b271, s_b273, s_b408]
noncomputable def I_b409 : List e2_In := [(179, 3, e2x_179)]
set_option maxRecDepth 1000000 in
theorem ck_b409 : e2_run (e2_cal S_b409 I_b409 4000 1) (e2_fin rs_b409) e2x_196 (fun _ => false) (fun _ _ _ _ _ => false) 4000 (e2_seek e2x_196 0) (e2_al 2 as_b409) [] E_b409 f_b409 = true := by decide +kernel
set_option maxRecDepth 1000000 in
theorem co_b409 : e2_okSB E_b409.length as_b409 f_b409 rs_b409 = true := by decide +kernel
theorem cs_b409 (hen : en_ok) (l : Launch) (hh : e2_hand_b l) : e2_smOk l 62 s_b409 := e2_con0 (H := 60) (n := 1) (C := evd_196) (S := S_b409) (I := I_b409) (fuel := 4000) [] hen ei_196 (e2_fa (hh _ hm_b98) (e2_fa ((cs_b185 hen l).mono (by decide)) (e2_fa ((cs_b234 hen l).mono (by decide)) (e2_fa ((cs_b268 hen l).mono (by decide)) (e2_fa ((cs_b271 hen l).mono (by decide)) (e2_fa ((cs_b273 hen l).mono (by decide)) (e2_fa ((cs_b408 hen l).mono (by decide)) e2_fz))))))) (e2_fa ein_179 e2_fz) (by decide) co_b409 ex2_196 ck_b409
/-! b410 X10_glyphHere -/
def as_b410 : List ev_V := [(2, 83, 0)]
def E_b410 : e2_E := [(2147483648, 2147583648, 0, 0), (2147483648, 2147483656, 1, 0), (2147483648, 2147485249, 2, 0)]
def bn2179 : e2_Q8 := (bn2156, bn1146)
noncomputable def f_b410 : ev_H := (bn2179 : e2_Q8)
noncomputable def q_b410_0 : ev_H := (bn2179 : e2_Q8)
noncomputable def rs_b410 : e2_Rs := [((0, 4294967295, 0), q_b410_0)]
noncomputable def s_b410 : e2_Sm := (190, as_b410, E_b410, f_b410, rs_b410)
noncomputable def S_b410 : List e2_Sm := [s_b276]
noncomputable def I_b410 : List e2_In := []
set_option maxRecDepth 1000000 in
theorem ck_b410 : e2_run (e2_cal S_b410 I_b410 4000 0) (e2_fin rs_b410) e2x_190 (fun _ => false) (fun _ _ _ _ _ => false) 4000 (e2_seek e2x_190 0) (e2_al 1 as_b410) [] E_b410 f_b410 = true := by decide +kernel
set_option maxRecDepth 1000000 in
theorem co_b410 : e2_okSB E_b410.length as_b410 f_b410 rs_b410 = true := by decide +kernel
theorem cs_b410 (hen : en_ok) (l : Launch) : e2_smOk l 2 s_b410 := e2_con0 (H := 1) (n := 0) (C := evd_190) (S := S_b410) (I := I_b410) (fuel := 4000) [] hen ei_190 (e2_fa (cs_b276 hen l) e2_fz) e2_fz (by decide) co_b410 ex2_190 ck_b410
/-! b411 X10_readGlyph -/
def as_b411 : List ev_V := [(2, 83, 0)]
def E_b411 : e2_E := [(2147483648, 2147583648, 0, 0), (2147483648, 2147483656, 1, 0), (2147483648, 2147485249, 2, 0)]
def bn2180 : e2_Q7 := (bn549, bn1454)
def bn2181 : e2_Q8 := (bn2052, bn2180)
noncomputable def f_b411 : ev_H := (bn2181 : e2_Q8)
def bn2182 : e2_Q7 := (bn549, bn1459)
def bn2183 : e2_Q8 := (bn2166, bn2182)
noncomputable def q_b411_0 : ev_H := (bn2183 : e2_Q8)
noncomputable def rs_b411 : e2_Rs := [((9, 0, 0), q_b411_0)]
noncomputable def s_b411 : e2_Sm := (196, as_b411, E_b411, f_b411, rs_b411)
noncomputable def S_b411 : List e2_Sm := [s_b96, s_b178, s_b232, s_b275, s_b278, s_b280, s_b410]
noncomputable def I_b411 : List e2_In := [(179, 3, e2x_179)]
set_option maxRecDepth 1000000 in
theorem ck_b411 : e2_run (e2_cal S_b411 I_b411 4000 1) (e2_fin rs_b411) e2x_196 (fun _ => false) (fun _ _ _ _ _ => false) 4000 (e2_seek e2x_196 0) (e2_al 2 as_b411) [] E_b411 f_b411 = true := by decide +kernel
set_option maxRecDepth 1000000 in
theorem co_b411 : e2_okSB E_b411.length as_b411 f_b411 rs_b411 = true := by decide +kernel
theorem cs_b411 (hen : en_ok) (l : Launch) (hh : e2_hand_b l) : e2_smOk l 62 s_b411 := e2_con0 (H := 60) (n := 1) (C := evd_196) (S := S_b411) (I := I_b411) (fuel := 4000) [] hen ei_196 (e2_fa (hh _ hm_b96) (e2_fa ((cs_b178 hen l).mono (by decide)) (e2_fa ((cs_b232 hen l).mono (by decide)) (e2_fa ((cs_b275 hen l).mono (by decide)) (e2_fa ((cs_b278 hen l).mono (by decide)) (e2_fa ((cs_b280 hen l).mono (by decide)) (e2_fa ((cs_b410 hen l).mono (by decide)) e2_fz))))))) (e2_fa ein_179 e2_fz) (by decide) co_b411 ex2_196 ck_b411
/-! b412 X10_glyphHere -/
def as_b412 : List ev_V := [(2, 83, 0)]
def E_b412 : e2_E := [(2147483648, 2147583648, 0, 0), (2147483648, 2147483656, 1, 0), (2147483648, 2147485249, 2, 0)]
def bn2184 : e2_Q7 := (bn2155, bn1463)
def bn2185 : e2_Q8 := (bn2184, bn1150)
noncomputable def f_b412 : ev_H := (bn2185 : e2_Q8)
noncomputable def q_b412_0 : ev_H := (bn2185 : e2_Q8)
noncomputable def rs_b412 : e2_Rs := [((11, 2147483647, 2147483655), q_b412_0)]
noncomputable def s_b412 : e2_Sm := (190, as_b412, E_b412, f_b412, rs_b412)
noncomputable def S_b412 : List e2_Sm := [s_b283]
noncomputable def I_b412 : List e2_In := []
set_option maxRecDepth 1000000 in
theorem ck_b412 : e2_run (e2_cal S_b412 I_b412 4000 0) (e2_fin rs_b412) e2x_190 (fun _ => false) (fun _ _ _ _ _ => false) 4000 (e2_seek e2x_190 0) (e2_al 1 as_b412) [] E_b412 f_b412 = true := by decide +kernel
set_option maxRecDepth 1000000 in
theorem co_b412 : e2_okSB E_b412.length as_b412 f_b412 rs_b412 = true := by decide +kernel
theorem cs_b412 (hen : en_ok) (l : Launch) : e2_smOk l 2 s_b412 := e2_con0 (H := 1) (n := 0) (C := evd_190) (S := S_b412) (I := I_b412) (fuel := 4000) [] hen ei_190 (e2_fa (cs_b283 hen l) e2_fz) e2_fz (by decide) co_b412 ex2_190 ck_b412
/-! b413 X10_readGlyph -/
def as_b413 : List ev_V := [(2, 83, 0)]
def E_b413 : e2_E := [(2147483648, 2147583648, 0, 0), (2147483648, 2147483656, 1, 0), (2147483648, 2147485249, 2, 0)]
def bn2186 : e2_Q7 := (bn2075, bn1524)
def bn2187 : e2_Q8 := (bn2052, bn2186)
noncomputable def f_b413 : ev_H := (bn2187 : e2_Q8)
def bn2188 : e2_Q5 := (bn579, bn1488)
def bn2189 : e2_Q6 := (bn2188, bn356)
def bn2190 : e2_Q7 := (bn2189, bn1531)
def bn2191 : e2_Q8 := (bn2166, bn2190)
noncomputable def q_b413_0 : ev_H := (bn2191 : e2_Q8)
def bn2192 : e2_Q7 := (bn2075, bn1536)
def bn2193 : e2_Q8 := (bn2166, bn2192)
noncomputable def q_b413_1 : ev_H := (bn2193 : e2_Q8)
def bn2194 : e2_Q7 := (bn2189, bn1541)
def bn2195 : e2_Q8 := (bn2166, bn2194)
noncomputable def q_b413_2 : ev_H := (bn2195 : e2_Q8)
def bn2196 : e2_Q7 := (bn2189, bn1546)
def bn2197 : e2_Q8 := (bn2166, bn2196)
noncomputable def q_b413_3 : ev_H := (bn2197 : e2_Q8)
def bn2198 : e2_Q7 := (bn2189, bn1551)
def bn2199 : e2_Q8 := (bn2166, bn2198)
noncomputable def q_b413_4 : ev_H := (bn2199 : e2_Q8)
def bn2200 : e2_Q7 := (bn2189, bn1556)
def bn2201 : e2_Q8 := (bn2166, bn2200)
noncomputable def q_b413_5 : ev_H := (bn2201 : e2_Q8)
def bn2202 : e2_Q7 := (bn2189, bn1561)
def bn2203 : e2_Q8 := (bn2166, bn2202)
noncomputable def q_b413_6 : ev_H := (bn2203 : e2_Q8)
def bn2204 : e2_Q7 := (bn2189, bn1566)
def bn2205 : e2_Q8 := (bn2166, bn2204)
noncomputable def q_b413_7 : ev_H := (bn2205 : e2_Q8)
def bn2206 : e2_Q7 := (bn2189, bn1417)
def bn2207 : e2_Q8 := (bn2166, bn2206)
noncomputable def q_b413_8 : ev_H := (bn2207 : e2_Q8)
def bn2208 : e2_Q7 := (bn2189, bn1459)
def bn2209 : e2_Q8 := (bn2166, bn2208)
noncomputable def q_b413_9 : ev_H := (bn2209 : e2_Q8)
def bn2210 : e2_Q7 := (bn2075, bn1575)
def bn2211 : e2_Q8 := (bn2166, bn2210)
noncomputable def q_b413_10 : ev_H := (bn2211 : e2_Q8)
noncomputable def rs_b413 : e2_Rs := [((9, 0, 0), q_b413_0), ((9, 0, 0), q_b413_1), ((9, 0, 0), q_b413_2), ((9, 0, 0), q_b413_3), ((9, 0, 0), q_b413_4), ((9, 0, 0), q_b413_5), ((9, 0, 0), q_b413_6), ((9, 0, 0), q_b413_7), ((9, 0, 0), q_b413_8), ((9, 0, 0), q_b413_9), ((9, 0, 0), q_b413_10)]
noncomputable def s_b413 : e2_Sm := (196, as_b413, E_b413, f_b413, rs_b413)
noncomputable def S_b413 : List e2_Sm := [s_b99, s_b100, s_b101, s_b102, s_b103, s_b104, s_b181, s_b183, s_b184, s_b186, s_b188, s_b190, s_b191, s_b192, s_b232, s_b233, s_b235, s_b236, s_b237, s_b238, s_b239, s_b240, s_b241, s_b242, s_b243, s_b244, s_b257, s_b259, s_b278, s_b280, s_b282, s_b285, s_b286, s_b287, s_b288, s_b289, s_b290, s_b291, s_b292, s_b293, s_b294, s_b295, s_b297, s_b299, s_b301, s_b303, s_b305, s_b307, s_b309, s_b311, s_b313, s_b315, s_b412]
noncomputable def I_b413 : List e2_In := [(179, 3, e2x_179)]
set_option maxRecDepth 1000000 in
theorem ck_b413 : e2_run (e2_cal S_b413 I_b413 4000 1) (e2_fin rs_b413) e2x_196 (fun _ => false) (fun _ _ _ _ _ => false) 4000 (e2_seek e2x_196 0) (e2_al 2 as_b413) [] E_b413 f_b413 = true := by decide +kernel
set_option maxRecDepth 1000000 in
theorem co_b413 : e2_okSB E_b413.length as_b413 f_b413 rs_b413 = true := by decide +kernel
theorem cs_b413 (hen : en_ok) (l : Launch) (hh : e2_hand_b l) : e2_smOk l 62 s_b413 := e2_con0 (H := 60) (n := 1) (C := evd_196) (S := S_b413) (I := I_b413) (fuel := 4000) [] hen ei_196 (e2_fa (hh _ hm_b99) (e2_fa (hh _ hm_b100) (e2_fa (hh _ hm_b101) (e2_fa (hh _ hm_b102) (e2_fa (hh _ hm_b103) (e2_fa (hh _ hm_b104) (e2_fa ((cs_b181 hen l).mono (by decide)) (e2_fa ((cs_b183 hen l).mono (by decide)) (e2_fa ((cs_b184 hen l).mono (by decide)) (e2_fa ((cs_b186 hen l).mono (by decide)) (e2_fa ((cs_b188 hen l).mono (by decide)) (e2_fa ((cs_b190 hen l).mono (by decide)) (e2_fa ((cs_b191 hen l).mono (by decide)) (e2_fa ((cs_b192 hen l).mono (by decide)) (e2_fa ((cs_b232 hen l).mono (by decide)) (e2_fa ((cs_b233 hen l).mono (by decide)) (e2_fa ((cs_b235 hen l).mono (by decide)) (e2_fa ((cs_b236 hen l).mono (by decide)) (e2_fa ((cs_b237 hen l).mono (by decide)) (e2_fa ((cs_b238 hen l).mono (by decide)) (e2_fa ((cs_b239 hen l).mono (by decide)) (e2_fa ((cs_b240 hen l).mono (by decide)) (e2_fa ((cs_b241 hen l).mono (by decide)) (e2_fa ((cs_b242 hen l).mono (by decide)) (e2_fa ((cs_b243 hen l).mono (by decide)) (e2_fa ((cs_b244 hen l).mono (by decide)) (e2_fa ((cs_b257 hen l).mono (by decide)) (e2_fa ((cs_b259 hen l).mono (by decide)) (e2_fa ((cs_b278 hen l).mono (by decide)) (e2_fa ((cs_b280 hen l).mono (by decide)) (e2_fa ((cs_b282 hen l).mono (by decide)) (e2_fa ((cs_b285 hen l).mono (by decide)) (e2_fa ((cs_b286 hen l).mono (by decide)) (e2_fa ((cs_b287 hen l).mono (by decide)) (e2_fa ((cs_b288 hen l).mono (by decide)) (e2_fa ((cs_b289 hen l).mono (by decide)) (e2_fa ((cs_b290 hen l).mono (by decide)) (e2_fa ((cs_b291 hen l).mono (by decide)) (e2_fa ((cs_b292 hen l).mono (by decide)) (e2_fa ((cs_b293 hen l).mono (by decide)) (e2_fa ((cs_b294 hen l).mono (by decide)) (e2_fa ((cs_b295 hen l).mono (by decide)) (e2_fa ((cs_b297 hen l).mono (by decide)) (e2_fa ((cs_b299 hen l).mono (by decide)) (e2_fa ((cs_b301 hen l).mono (by decide)) (e2_fa ((cs_b303 hen l).mono (by decide)) (e2_fa ((cs_b305 hen l).mono (by decide)) (e2_fa ((cs_b307 hen l).mono (by decide)) (e2_fa ((cs_b309 hen l).mono (by decide)) (e2_fa ((cs_b311 hen l).mono (by decide)) (e2_fa ((cs_b313 hen l).mono (by decide)) (e2_fa ((cs_b315 hen l).mono (by decide)) (e2_fa ((cs_b412 hen l).mono (by decide)) e2_fz))))))))))))))))))))))))))))))))))))))))))))))))))))) (e2_fa ein_179 e2_fz) (by decide) co_b413 ex2_196 ck_b413
/-! b414 X10_readNever -/
def as_b414 : List ev_V := [(2, 83, 0)]
def E_b414 : e2_E := [(2147483648, 2147583648, 0, 0), (2147483648, 2147483656, 1, 0), (2147483648, 2147485249, 2, 0)]
noncomputable def f_b414 : ev_H := (bn2157 : e2_Q8)
def bn2212 : e2_Q8 := (bn2156, bn1084)
noncomputable def q_b414_0 : ev_H := (bn2212 : e2_Q8)
noncomputable def rs_b414 : e2_Rs := [((9, 0, 0), q_b414_0)]
noncomputable def s_b414 : e2_Sm := (197, as_b414, E_b414, f_b414, rs_b414)
noncomputable def S_b414 : List e2_Sm := [s_b285, s_b404]
noncomputable def I_b414 : List e2_In := [(174, 1, e2x_174)]
set_option maxRecDepth 1000000 in
theorem ck_b414 : e2_run (e2_cal S_b414 I_b414 4000 1) (e2_fin rs_b414) e2x_197 (fun _ => false) (fun _ _ _ _ _ => false) 4000 (e2_seek e2x_197 0) (e2_al 3 as_b414) [] E_b414 f_b414 = true := by decide +kernel
set_option maxRecDepth 1000000 in
theorem co_b414 : e2_okSB E_b414.length as_b414 f_b414 rs_b414 = true := by decide +kernel
theorem cs_b414 (hen : en_ok) (l : Launch) : e2_smOk l 5 s_b414 := e2_con0 (H := 3) (n := 1) (C := evd_197) (S := S_b414) (I := I_b414) (fuel := 4000) [] hen ei_197 (e2_fa (cs_b285 hen l) (e2_fa ((cs_b404 hen l).mono (by decide)) e2_fz)) (e2_fa ein_174 e2_fz) (by decide) co_b414 ex2_197 ck_b414
/-! b415 X10_readNever -/
def as_b415 : List ev_V := [(2, 83, 0)]
def E_b415 : e2_E := [(2147483648, 2147583648, 0, 0), (2147483648, 2147483656, 1, 0), (2147483648, 2147485249, 2, 0)]
noncomputable def f_b415 : ev_H := (bn2169 : e2_Q8)
def bn2213 : e2_Q8 := (bn2156, bn1090)
noncomputable def q_b415_0 : ev_H := (bn2213 : e2_Q8)
noncomputable def rs_b415 : e2_Rs := [((9, 0, 0), q_b415_0)]
noncomputable def s_b415 : e2_Sm := (197, as_b415, E_b415, f_b415, rs_b415)
noncomputable def S_b415 : List e2_Sm := [s_b318, s_b406]
noncomputable def I_b415 : List e2_In := [(174, 1, e2x_174)]
set_option maxRecDepth 1000000 in
theorem ck_b415 : e2_run (e2_cal S_b415 I_b415 4000 1) (e2_fin rs_b415) e2x_197 (fun _ => false) (fun _ _ _ _ _ => false) 4000 (e2_seek e2x_197 0) (e2_al 3 as_b415) [] E_b415 f_b415 = true := by decide +kernel
set_option maxRecDepth 1000000 in
theorem co_b415 : e2_okSB E_b415.length as_b415 f_b415 rs_b415 = true := by decide +kernel
theorem cs_b415 (hen : en_ok) (l : Launch) : e2_smOk l 5 s_b415 := e2_con0 (H := 3) (n := 1) (C := evd_197) (S := S_b415) (I := I_b415) (fuel := 4000) [] hen ei_197 (e2_fa (cs_b318 hen l) (e2_fa ((cs_b406 hen l).mono (by decide)) e2_fz)) (e2_fa ein_174 e2_fz) (by decide) co_b415 ex2_197 ck_b415
/-! b416 X10_readNever -/
def as_b416 : List ev_V := [(2, 83, 0)]
def E_b416 : e2_E := [(2147483648, 2147583648, 0, 0), (2147483648, 2147483656, 1, 0), (2147483648, 2147485249, 2, 0)]
noncomputable def f_b416 : ev_H := (bn2174 : e2_Q8)
def bn2214 : e2_Q8 := (bn2156, bn1096)
noncomputable def q_b416_0 : ev_H := (bn2214 : e2_Q8)
noncomputable def rs_b416 : e2_Rs := [((9, 0, 0), q_b416_0)]
noncomputable def s_b416 : e2_Sm := (197, as_b416, E_b416, f_b416, rs_b416)
noncomputable def S_b416 : List e2_Sm := [s_b320, s_b408]
noncomputable def I_b416 : List e2_In := [(174, 1, e2x_174)]
set_option maxRecDepth 1000000 in
theorem ck_b416 : e2_run (e2_cal S_b416 I_b416 4000 1) (e2_fin rs_b416) e2x_197 (fun _ => false) (fun _ _ _ _ _ => false) 4000 (e2_seek e2x_197 0) (e2_al 3 as_b416) [] E_b416 f_b416 = true := by decide +kernel
set_option maxRecDepth 1000000 in
theorem co_b416 : e2_okSB E_b416.length as_b416 f_b416 rs_b416 = true := by decide +kernel
theorem cs_b416 (hen : en_ok) (l : Launch) : e2_smOk l 5 s_b416 := e2_con0 (H := 3) (n := 1) (C := evd_197) (S := S_b416) (I := I_b416) (fuel := 4000) [] hen ei_197 (e2_fa (cs_b320 hen l) (e2_fa ((cs_b408 hen l).mono (by decide)) e2_fz)) (e2_fa ein_174 e2_fz) (by decide) co_b416 ex2_197 ck_b416
/-! b417 X10_readNever -/
def as_b417 : List ev_V := [(2, 83, 0)]
def E_b417 : e2_E := [(2147483648, 2147583648, 0, 0), (2147483648, 2147483656, 1, 0), (2147483648, 2147485249, 2, 0)]
noncomputable def f_b417 : ev_H := (bn2179 : e2_Q8)
def bn2215 : e2_Q8 := (bn2156, bn1082)
noncomputable def q_b417_0 : ev_H := (bn2215 : e2_Q8)
noncomputable def rs_b417 : e2_Rs := [((9, 0, 0), q_b417_0)]
noncomputable def s_b417 : e2_Sm := (197, as_b417, E_b417, f_b417, rs_b417)
noncomputable def S_b417 : List e2_Sm := [s_b288, s_b410]
noncomputable def I_b417 : List e2_In := [(174, 1, e2x_174)]
set_option maxRecDepth 1000000 in
theorem ck_b417 : e2_run (e2_cal S_b417 I_b417 4000 1) (e2_fin rs_b417) e2x_197 (fun _ => false) (fun _ _ _ _ _ => false) 4000 (e2_seek e2x_197 0) (e2_al 3 as_b417) [] E_b417 f_b417 = true := by decide +kernel
set_option maxRecDepth 1000000 in
theorem co_b417 : e2_okSB E_b417.length as_b417 f_b417 rs_b417 = true := by decide +kernel
theorem cs_b417 (hen : en_ok) (l : Launch) : e2_smOk l 5 s_b417 := e2_con0 (H := 3) (n := 1) (C := evd_197) (S := S_b417) (I := I_b417) (fuel := 4000) [] hen ei_197 (e2_fa (cs_b288 hen l) (e2_fa ((cs_b410 hen l).mono (by decide)) e2_fz)) (e2_fa ein_174 e2_fz) (by decide) co_b417 ex2_197 ck_b417
/-! b418 X10_glyphHere -/
def as_b418 : List ev_V := [(2, 83, 0)]
def E_b418 : e2_E := [(2147483648, 2147583648, 0, 0), (2147483648, 2147483656, 1, 0), (2147483648, 2147485249, 2, 0)]
def bn2216 : e2_Q8 := (bn2156, bn1152)
noncomputable def f_b418 : ev_H := (bn2216 : e2_Q8)
noncomputable def q_b418_0 : ev_H := (bn2216 : e2_Q8)
noncomputable def rs_b418 : e2_Rs := [((0, 4294967295, 0), q_b418_0)]
noncomputable def s_b418 : e2_Sm := (190, as_b418, E_b418, f_b418, rs_b418)
noncomputable def S_b418 : List e2_Sm := [s_b323]
noncomputable def I_b418 : List e2_In := []
set_option maxRecDepth 1000000 in
theorem ck_b418 : e2_run (e2_cal S_b418 I_b418 4000 0) (e2_fin rs_b418) e2x_190 (fun _ => false) (fun _ _ _ _ _ => false) 4000 (e2_seek e2x_190 0) (e2_al 1 as_b418) [] E_b418 f_b418 = true := by decide +kernel
set_option maxRecDepth 1000000 in
theorem co_b418 : e2_okSB E_b418.length as_b418 f_b418 rs_b418 = true := by decide +kernel
theorem cs_b418 (hen : en_ok) (l : Launch) : e2_smOk l 2 s_b418 := e2_con0 (H := 1) (n := 0) (C := evd_190) (S := S_b418) (I := I_b418) (fuel := 4000) [] hen ei_190 (e2_fa (cs_b323 hen l) e2_fz) e2_fz (by decide) co_b418 ex2_190 ck_b418
/-! b419 X10_glyphHere -/
def as_b419 : List ev_V := [(2, 83, 0)]
def E_b419 : e2_E := [(2147483648, 2147583648, 0, 0), (2147483648, 2147483656, 1, 0), (2147483648, 2147485249, 2, 0)]
def bn2217 : e2_Q8 := (bn2156, bn1198)
noncomputable def f_b419 : ev_H := (bn2217 : e2_Q8)
noncomputable def q_b419_0 : ev_H := (bn2217 : e2_Q8)
noncomputable def rs_b419 : e2_Rs := [((0, 4294967295, 0), q_b419_0)]
noncomputable def s_b419 : e2_Sm := (190, as_b419, E_b419, f_b419, rs_b419)
noncomputable def S_b419 : List e2_Sm := [s_b325]
noncomputable def I_b419 : List e2_In := []
set_option maxRecDepth 1000000 in
theorem ck_b419 : e2_run (e2_cal S_b419 I_b419 4000 0) (e2_fin rs_b419) e2x_190 (fun _ => false) (fun _ _ _ _ _ => false) 4000 (e2_seek e2x_190 0) (e2_al 1 as_b419) [] E_b419 f_b419 = true := by decide +kernel
set_option maxRecDepth 1000000 in
theorem co_b419 : e2_okSB E_b419.length as_b419 f_b419 rs_b419 = true := by decide +kernel
theorem cs_b419 (hen : en_ok) (l : Launch) : e2_smOk l 2 s_b419 := e2_con0 (H := 1) (n := 0) (C := evd_190) (S := S_b419) (I := I_b419) (fuel := 4000) [] hen ei_190 (e2_fa (cs_b325 hen l) e2_fz) e2_fz (by decide) co_b419 ex2_190 ck_b419
/-! b420 X10_readNever -/
def as_b420 : List ev_V := [(2, 83, 0)]
def E_b420 : e2_E := [(2147483648, 2147583648, 0, 0), (2147483648, 2147483656, 1, 0), (2147483648, 2147485249, 2, 0)]
def bn2218 : e2_Q6 := (bn2154, bn1584)
def bn2219 : e2_Q7 := (bn2218, bn1463)
def bn2220 : e2_Q8 := (bn2219, bn1588)
noncomputable def f_b420 : ev_H := (bn2220 : e2_Q8)
def bn2221 : e2_Q8 := (bn2219, bn1590)
noncomputable def q_b420_0 : ev_H := (bn2221 : e2_Q8)
def bn2222 : e2_Q8 := (bn2219, bn1592)
noncomputable def q_b420_1 : ev_H := (bn2222 : e2_Q8)
def bn2223 : e2_Q8 := (bn2219, bn1594)
noncomputable def q_b420_2 : ev_H := (bn2223 : e2_Q8)
def bn2224 : e2_Q8 := (bn2219, bn1596)
noncomputable def q_b420_3 : ev_H := (bn2224 : e2_Q8)
def bn2225 : e2_Q8 := (bn2219, bn1598)
noncomputable def q_b420_4 : ev_H := (bn2225 : e2_Q8)
def bn2226 : e2_Q8 := (bn2219, bn1600)
noncomputable def q_b420_5 : ev_H := (bn2226 : e2_Q8)
def bn2227 : e2_Q8 := (bn2219, bn1602)
noncomputable def q_b420_6 : ev_H := (bn2227 : e2_Q8)
def bn2228 : e2_Q8 := (bn2219, bn1604)
noncomputable def q_b420_7 : ev_H := (bn2228 : e2_Q8)
def bn2229 : e2_Q8 := (bn2219, bn1606)
noncomputable def q_b420_8 : ev_H := (bn2229 : e2_Q8)
def bn2230 : e2_Q8 := (bn2219, bn1608)
noncomputable def q_b420_9 : ev_H := (bn2230 : e2_Q8)
noncomputable def rs_b420 : e2_Rs := [((9, 0, 0), q_b420_0), ((9, 0, 0), q_b420_1), ((9, 0, 0), q_b420_2), ((9, 0, 0), q_b420_3), ((9, 0, 0), q_b420_4), ((9, 0, 0), q_b420_5), ((9, 0, 0), q_b420_6), ((9, 0, 0), q_b420_7), ((9, 0, 0), q_b420_8), ((9, 0, 0), q_b420_9)]
noncomputable def s_b420 : e2_Sm := (197, as_b420, E_b420, f_b420, rs_b420)
noncomputable def S_b420 : List e2_Sm := [s_b285, s_b286, s_b287, s_b288, s_b327, s_b328, s_b329, s_b330, s_b404, s_b410, s_b412, s_b418, s_b419]
noncomputable def I_b420 : List e2_In := [(173, 3, e2x_173), (174, 1, e2x_174)]
set_option maxRecDepth 1000000 in
theorem ck_b420 : e2_run (e2_cal S_b420 I_b420 4000 1) (e2_fin rs_b420) e2x_197 (fun _ => false) (fun _ _ _ _ _ => false) 4000 (e2_seek e2x_197 0) (e2_al 3 as_b420) [] E_b420 f_b420 = true := by decide +kernel
set_option maxRecDepth 1000000 in
theorem co_b420 : e2_okSB E_b420.length as_b420 f_b420 rs_b420 = true := by decide +kernel
theorem cs_b420 (hen : en_ok) (l : Launch) : e2_smOk l 8 s_b420 := e2_con0 (H := 6) (n := 1) (C := evd_197) (S := S_b420) (I := I_b420) (fuel := 4000) [] hen ei_197 (e2_fa ((cs_b285 hen l).mono (by decide)) (e2_fa ((cs_b286 hen l).mono (by decide)) (e2_fa ((cs_b287 hen l).mono (by decide)) (e2_fa ((cs_b288 hen l).mono (by decide)) (e2_fa ((cs_b327 hen l).mono (by decide)) (e2_fa (cs_b328 hen l) (e2_fa (cs_b329 hen l) (e2_fa ((cs_b330 hen l).mono (by decide)) (e2_fa ((cs_b404 hen l).mono (by decide)) (e2_fa ((cs_b410 hen l).mono (by decide)) (e2_fa ((cs_b412 hen l).mono (by decide)) (e2_fa ((cs_b418 hen l).mono (by decide)) (e2_fa ((cs_b419 hen l).mono (by decide)) e2_fz))))))))))))) (e2_fa ein_173 (e2_fa ein_174 e2_fz)) (by decide) co_b420 ex2_197 ck_b420
/-! b421 X10_readLine -/
def as_b421 : List ev_V := [(2, 83, 0)]
def E_b421 : e2_E := [(2147483648, 2147583648, 0, 0), (2147483648, 2147483656, 1, 0), (2147483648, 2147485249, 2, 0)]
def bn2231 : e2_Q7 := (bn2140, bn1735)
def bn2232 : e2_Q8 := (bn2134, bn2231)
noncomputable def f_b421 : ev_H := (bn2232 : e2_Q8)
def bn2233 : e2_Q7 := (bn2140, bn1743)
def bn2234 : e2_Q8 := (bn2134, bn2233)
noncomputable def q_b421_0 : ev_H := (bn2234 : e2_Q8)
def bn2235 : e2_Q7 := (bn2140, bn1748)
def bn2236 : e2_Q8 := (bn2134, bn2235)
noncomputable def q_b421_1 : ev_H := (bn2236 : e2_Q8)
def bn2237 : e2_Q7 := (bn2140, bn1752)
def bn2238 : e2_Q8 := (bn2134, bn2237)
noncomputable def q_b421_2 : ev_H := (bn2238 : e2_Q8)
def bn2239 : e2_Q7 := (bn2140, bn1756)
def bn2240 : e2_Q8 := (bn2134, bn2239)
noncomputable def q_b421_3 : ev_H := (bn2240 : e2_Q8)
noncomputable def q_b421_4 : ev_H := (bn2142 : e2_Q8)
noncomputable def q_b421_5 : ev_H := (bn2144 : e2_Q8)
noncomputable def q_b421_6 : ev_H := (bn2146 : e2_Q8)
noncomputable def q_b421_7 : ev_H := (bn2148 : e2_Q8)
noncomputable def q_b421_8 : ev_H := (bn2150 : e2_Q8)
def bn2241 : e2_Q7 := (bn2140, bn1780)
def bn2242 : e2_Q8 := (bn2134, bn2241)
noncomputable def q_b421_9 : ev_H := (bn2242 : e2_Q8)
def bn2243 : e2_Q7 := (bn2140, bn1784)
def bn2244 : e2_Q8 := (bn2134, bn2243)
noncomputable def q_b421_10 : ev_H := (bn2244 : e2_Q8)
def bn2245 : e2_Q4 := (bn747, bn2162)
def bn2246 : e2_Q5 := (bn329, bn2245)
def bn2247 : e2_Q6 := (bn2246, bn1717)
def bn2248 : e2_Q7 := (bn2247, bn1724)
def bn2249 : e2_Q8 := (bn2248, bn2235)
noncomputable def q_b421_11 : ev_H := (bn2249 : e2_Q8)
def bn2250 : e2_Q8 := (bn2248, bn2237)
noncomputable def q_b421_12 : ev_H := (bn2250 : e2_Q8)
def bn2251 : e2_Q8 := (bn2248, bn2241)
noncomputable def q_b421_13 : ev_H := (bn2251 : e2_Q8)
def bn2252 : e2_Q8 := (bn2248, bn2243)
noncomputable def q_b421_14 : ev_H := (bn2252 : e2_Q8)
def bn2253 : e2_Q5 := (bn579, bn1726)
def bn2254 : e2_Q6 := (bn2253, bn1729)
def bn2255 : e2_Q7 := (bn2254, bn1760)
def bn2256 : e2_Q8 := (bn2248, bn2255)
noncomputable def q_b421_15 : ev_H := (bn2256 : e2_Q8)
def bn2257 : e2_Q7 := (bn2254, bn1764)
def bn2258 : e2_Q8 := (bn2248, bn2257)
noncomputable def q_b421_16 : ev_H := (bn2258 : e2_Q8)
def bn2259 : e2_Q7 := (bn2254, bn1768)
def bn2260 : e2_Q8 := (bn2248, bn2259)
noncomputable def q_b421_17 : ev_H := (bn2260 : e2_Q8)
def bn2261 : e2_Q7 := (bn2254, bn1772)
def bn2262 : e2_Q8 := (bn2248, bn2261)
noncomputable def q_b421_18 : ev_H := (bn2262 : e2_Q8)
def bn2263 : e2_Q7 := (bn2254, bn1776)
def bn2264 : e2_Q8 := (bn2248, bn2263)
noncomputable def q_b421_19 : ev_H := (bn2264 : e2_Q8)
def bn2265 : e2_Q7 := (bn2140, bn1808)
def bn2266 : e2_Q8 := (bn2248, bn2265)
noncomputable def q_b421_20 : ev_H := (bn2266 : e2_Q8)
def bn2267 : e2_Q8 := (bn2248, bn2239)
noncomputable def q_b421_21 : ev_H := (bn2267 : e2_Q8)
noncomputable def rs_b421 : e2_Rs := [((9, 0, 0), q_b421_0), ((9, 0, 0), q_b421_1), ((9, 0, 0), q_b421_2), ((9, 0, 0), q_b421_3), ((9, 0, 0), q_b421_4), ((9, 0, 0), q_b421_5), ((9, 0, 0), q_b421_6), ((9, 0, 0), q_b421_7), ((9, 0, 0), q_b421_8), ((9, 0, 0), q_b421_9), ((9, 0, 0), q_b421_10), ((9, 0, 0), q_b421_11), ((9, 0, 0), q_b421_12), ((9, 0, 0), q_b421_13), ((9, 0, 0), q_b421_14), ((9, 0, 0), q_b421_15), ((9, 0, 0), q_b421_16), ((9, 0, 0), q_b421_17), ((9, 0, 0), q_b421_18), ((9, 0, 0), q_b421_19), ((9, 0, 0), q_b421_20), ((9, 0, 0), q_b421_21)]
noncomputable def s_b421 : e2_Sm := (187, as_b421, E_b421, f_b421, rs_b421)
noncomputable def S_b421 : List e2_Sm := [s_b173, s_b178, s_b179, s_b180, s_b181, s_b182, s_b183, s_b184, s_b185, s_b186, s_b187, s_b188, s_b189, s_b190, s_b191, s_b192, s_b193, s_b194, s_b195, s_b196, s_b197, s_b198, s_b199, s_b217, s_b218, s_b219, s_b220, s_b221, s_b249, s_b250, s_b251, s_b252, s_b253, s_b332, s_b333, s_b334, s_b335, s_b336, s_b338, s_b341, s_b344, s_b346, s_b348, s_b405, s_b407, s_b409, s_b411, s_b413, s_b414, s_b415, s_b416, s_b417, s_b420]
noncomputable def I_b421 : List e2_In := [(170, 2, e2x_170), (173, 3, e2x_173), (174, 1, e2x_174), (178, 2, e2x_178), (179, 3, e2x_179), (180, 1, e2x_180), (186, 1, e2x_186)]
set_option maxRecDepth 1000000 in
theorem ck_b421 : e2_run (e2_cal S_b421 I_b421 4000 2) (e2_fin rs_b421) e2x_187 (fun _ => false) (fun _ _ _ _ _ => false) 4000 (e2_seek e2x_187 0) (e2_al 3 as_b421) [] E_b421 f_b421 = true := by decide +kernel
set_option maxRecDepth 1000000 in
theorem co_b421 : e2_okSB E_b421.length as_b421 f_b421 rs_b421 = true := by decide +kernel
theorem cs_b421 (hen : en_ok) (l : Launch) (hh : e2_hand_b l) : e2_smOk l 65 s_b421 := e2_con0 (H := 62) (n := 2) (C := evd_187) (S := S_b421) (I := I_b421) (fuel := 4000) [] hen ei_187 (e2_fa ((cs_b173 hen l).mono (by decide)) (e2_fa ((cs_b178 hen l).mono (by decide)) (e2_fa ((cs_b179 hen l).mono (by decide)) (e2_fa ((cs_b180 hen l).mono (by decide)) (e2_fa ((cs_b181 hen l).mono (by decide)) (e2_fa ((cs_b182 hen l).mono (by decide)) (e2_fa ((cs_b183 hen l).mono (by decide)) (e2_fa ((cs_b184 hen l).mono (by decide)) (e2_fa ((cs_b185 hen l).mono (by decide)) (e2_fa ((cs_b186 hen l).mono (by decide)) (e2_fa ((cs_b187 hen l).mono (by decide)) (e2_fa ((cs_b188 hen l).mono (by decide)) (e2_fa ((cs_b189 hen l).mono (by decide)) (e2_fa ((cs_b190 hen l).mono (by decide)) (e2_fa ((cs_b191 hen l).mono (by decide)) (e2_fa ((cs_b192 hen l).mono (by decide)) (e2_fa ((cs_b193 hen l).mono (by decide)) (e2_fa ((cs_b194 hen l).mono (by decide)) (e2_fa ((cs_b195 hen l).mono (by decide)) (e2_fa ((cs_b196 hen l).mono (by decide)) (e2_fa ((cs_b197 hen l).mono (by decide)) (e2_fa ((cs_b198 hen l).mono (by decide)) (e2_fa ((cs_b199 hen l).mono (by decide)) (e2_fa ((cs_b217 hen l).mono (by decide)) (e2_fa ((cs_b218 hen l).mono (by decide)) (e2_fa ((cs_b219 hen l).mono (by decide)) (e2_fa ((cs_b220 hen l).mono (by decide)) (e2_fa ((cs_b221 hen l).mono (by decide)) (e2_fa ((cs_b249 hen l).mono (by decide)) (e2_fa ((cs_b250 hen l).mono (by decide)) (e2_fa ((cs_b251 hen l).mono (by decide)) (e2_fa ((cs_b252 hen l).mono (by decide)) (e2_fa ((cs_b253 hen l).mono (by decide)) (e2_fa ((cs_b332 hen l hh).mono (by decide)) (e2_fa ((cs_b333 hen l hh).mono (by decide)) (e2_fa ((cs_b334 hen l hh).mono (by decide)) (e2_fa ((cs_b335 hen l hh).mono (by decide)) (e2_fa ((cs_b336 hen l hh).mono (by decide)) (e2_fa ((cs_b338 hen l).mono (by decide)) (e2_fa ((cs_b341 hen l).mono (by decide)) (e2_fa ((cs_b344 hen l).mono (by decide)) (e2_fa ((cs_b346 hen l).mono (by decide)) (e2_fa ((cs_b348 hen l).mono (by decide)) (e2_fa (cs_b405 hen l hh) (e2_fa (cs_b407 hen l hh) (e2_fa (cs_b409 hen l hh) (e2_fa (cs_b411 hen l hh) (e2_fa (cs_b413 hen l hh) (e2_fa ((cs_b414 hen l).mono (by decide)) (e2_fa ((cs_b415 hen l).mono (by decide)) (e2_fa ((cs_b416 hen l).mono (by decide)) (e2_fa ((cs_b417 hen l).mono (by decide)) (e2_fa ((cs_b420 hen l).mono (by decide)) e2_fz))))))))))))))))))))))))))))))))))))))))))))))))))))) (e2_fa ein_170 (e2_fa ein_173 (e2_fa ein_174 (e2_fa ein_178 (e2_fa ein_179 (e2_fa ein_180 (e2_fa ein_186 e2_fz))))))) (by decide) co_b421 ex2_187 ck_b421
/-! b422 X10_glyphHere -/
def as_b422 : List ev_V := [(2, 83, 0)]
def E_b422 : e2_E := [(2147483648, 2147583648, 0, 0), (2147483648, 2147483656, 1, 0), (2147483648, 2147485249, 2, 0)]
def bn2268 : e2_Q5 := (bn14, bn2163)
def bn2269 : e2_Q6 := (bn2268, bn338)
def bn2270 : e2_Q7 := (bn2269, bn345)
def bn2271 : e2_Q8 := (bn2270, bn1098)
noncomputable def f_b422 : ev_H := (bn2271 : e2_Q8)
noncomputable def q_b422_0 : ev_H := (bn2271 : e2_Q8)
noncomputable def rs_b422 : e2_Rs := [((0, 4294967295, 0), q_b422_0)]
noncomputable def s_b422 : e2_Sm := (190, as_b422, E_b422, f_b422, rs_b422)
noncomputable def S_b422 : List e2_Sm := [s_b255]
noncomputable def I_b422 : List e2_In := []
set_option maxRecDepth 1000000 in
theorem ck_b422 : e2_run (e2_cal S_b422 I_b422 4000 0) (e2_fin rs_b422) e2x_190 (fun _ => false) (fun _ _ _ _ _ => false) 4000 (e2_seek e2x_190 0) (e2_al 1 as_b422) [] E_b422 f_b422 = true := by decide +kernel
set_option maxRecDepth 1000000 in
theorem co_b422 : e2_okSB E_b422.length as_b422 f_b422 rs_b422 = true := by decide +kernel
theorem cs_b422 (hen : en_ok) (l : Launch) : e2_smOk l 2 s_b422 := e2_con0 (H := 1) (n := 0) (C := evd_190) (S := S_b422) (I := I_b422) (fuel := 4000) [] hen ei_190 (e2_fa (cs_b255 hen l) e2_fz) e2_fz (by decide) co_b422 ex2_190 ck_b422
/-! b423 X10_readGlyph -/
def as_b423 : List ev_V := [(2, 83, 0)]
def E_b423 : e2_E := [(2147483648, 2147583648, 0, 0), (2147483648, 2147483656, 1, 0), (2147483648, 2147485249, 2, 0)]
def bn2272 : e2_Q7 := (bn581, bn1405)
def bn2273 : e2_Q8 := (bn2166, bn2272)
noncomputable def f_b423 : ev_H := (bn2273 : e2_Q8)
def bc246 : ev_C := (50, [(1, 1, 4294967296), (0, 6, 0)])
def bn2274 : e2_Q1 := (bc246, bc3)
def bn2275 : e2_Q2 := (bn22, bn2274)
def bn2276 : e2_Q3 := (bn2275, bn27)
def bn2277 : e2_Q4 := (bn21, bn2276)
def bn2278 : e2_Q5 := (bn329, bn2277)
def bn2279 : e2_Q6 := (bn2278, bn338)
def bn2280 : e2_Q7 := (bn2279, bn1399)
def bn2281 : e2_Q7 := (bn581, bn1417)
def bn2282 : e2_Q8 := (bn2280, bn2281)
noncomputable def q_b423_0 : ev_H := (bn2282 : e2_Q8)
noncomputable def rs_b423 : e2_Rs := [((9, 0, 0), q_b423_0)]
noncomputable def s_b423 : e2_Sm := (196, as_b423, E_b423, f_b423, rs_b423)
noncomputable def S_b423 : List e2_Sm := [s_b117, s_b179, s_b233, s_b254, s_b257, s_b259, s_b422]
noncomputable def I_b423 : List e2_In := [(179, 3, e2x_179)]
set_option maxRecDepth 1000000 in
theorem ck_b423 : e2_run (e2_cal S_b423 I_b423 4000 1) (e2_fin rs_b423) e2x_196 (fun _ => false) (fun _ _ _ _ _ => false) 4000 (e2_seek e2x_196 0) (e2_al 2 as_b423) [] E_b423 f_b423 = true := by decide +kernel
set_option maxRecDepth 1000000 in
theorem co_b423 : e2_okSB E_b423.length as_b423 f_b423 rs_b423 = true := by decide +kernel
theorem cs_b423 (hen : en_ok) (l : Launch) (hh : e2_hand_b l) : e2_smOk l 62 s_b423 := e2_con0 (H := 60) (n := 1) (C := evd_196) (S := S_b423) (I := I_b423) (fuel := 4000) [] hen ei_196 (e2_fa (hh _ hm_b117) (e2_fa ((cs_b179 hen l).mono (by decide)) (e2_fa ((cs_b233 hen l).mono (by decide)) (e2_fa ((cs_b254 hen l).mono (by decide)) (e2_fa ((cs_b257 hen l).mono (by decide)) (e2_fa ((cs_b259 hen l).mono (by decide)) (e2_fa ((cs_b422 hen l).mono (by decide)) e2_fz))))))) (e2_fa ein_179 e2_fz) (by decide) co_b423 ex2_196 ck_b423
/-! b424 X10_glyphHere -/
def as_b424 : List ev_V := [(2, 83, 0)]
def E_b424 : e2_E := [(2147483648, 2147583648, 0, 0), (2147483648, 2147483656, 1, 0), (2147483648, 2147485249, 2, 0)]
def bn2283 : e2_Q8 := (bn2270, bn1088)
noncomputable def f_b424 : ev_H := (bn2283 : e2_Q8)
noncomputable def q_b424_0 : ev_H := (bn2283 : e2_Q8)
noncomputable def rs_b424 : e2_Rs := [((0, 4294967295, 0), q_b424_0)]
noncomputable def s_b424 : e2_Sm := (190, as_b424, E_b424, f_b424, rs_b424)
noncomputable def S_b424 : List e2_Sm := [s_b262]
noncomputable def I_b424 : List e2_In := []
set_option maxRecDepth 1000000 in
theorem ck_b424 : e2_run (e2_cal S_b424 I_b424 4000 0) (e2_fin rs_b424) e2x_190 (fun _ => false) (fun _ _ _ _ _ => false) 4000 (e2_seek e2x_190 0) (e2_al 1 as_b424) [] E_b424 f_b424 = true := by decide +kernel
set_option maxRecDepth 1000000 in
theorem co_b424 : e2_okSB E_b424.length as_b424 f_b424 rs_b424 = true := by decide +kernel
theorem cs_b424 (hen : en_ok) (l : Launch) : e2_smOk l 2 s_b424 := e2_con0 (H := 1) (n := 0) (C := evd_190) (S := S_b424) (I := I_b424) (fuel := 4000) [] hen ei_190 (e2_fa (cs_b262 hen l) e2_fz) e2_fz (by decide) co_b424 ex2_190 ck_b424
/-! b425 X10_readGlyph -/
def as_b425 : List ev_V := [(2, 83, 0)]
def E_b425 : e2_E := [(2147483648, 2147583648, 0, 0), (2147483648, 2147483656, 1, 0), (2147483648, 2147485249, 2, 0)]
def bn2284 : e2_Q7 := (bn581, bn1426)
def bn2285 : e2_Q8 := (bn2166, bn2284)
noncomputable def f_b425 : ev_H := (bn2285 : e2_Q8)
def bn2286 : e2_Q7 := (bn581, bn1431)
def bn2287 : e2_Q8 := (bn2280, bn2286)
noncomputable def q_b425_0 : ev_H := (bn2287 : e2_Q8)
noncomputable def rs_b425 : e2_Rs := [((9, 0, 0), q_b425_0)]
noncomputable def s_b425 : e2_Sm := (196, as_b425, E_b425, f_b425, rs_b425)
noncomputable def S_b425 : List e2_Sm := [s_b125, s_b187, s_b245, s_b261, s_b264, s_b266, s_b424]
noncomputable def I_b425 : List e2_In := [(179, 3, e2x_179)]
set_option maxRecDepth 1000000 in
theorem ck_b425 : e2_run (e2_cal S_b425 I_b425 4000 1) (e2_fin rs_b425) e2x_196 (fun _ => false) (fun _ _ _ _ _ => false) 4000 (e2_seek e2x_196 0) (e2_al 2 as_b425) [] E_b425 f_b425 = true := by decide +kernel
set_option maxRecDepth 1000000 in
theorem co_b425 : e2_okSB E_b425.length as_b425 f_b425 rs_b425 = true := by decide +kernel
theorem cs_b425 (hen : en_ok) (l : Launch) (hh : e2_hand_b l) : e2_smOk l 62 s_b425 := e2_con0 (H := 60) (n := 1) (C := evd_196) (S := S_b425) (I := I_b425) (fuel := 4000) [] hen ei_196 (e2_fa (hh _ hm_b125) (e2_fa ((cs_b187 hen l).mono (by decide)) (e2_fa ((cs_b245 hen l).mono (by decide)) (e2_fa ((cs_b261 hen l).mono (by decide)) (e2_fa ((cs_b264 hen l).mono (by decide)) (e2_fa ((cs_b266 hen l).mono (by decide)) (e2_fa ((cs_b424 hen l).mono (by decide)) e2_fz))))))) (e2_fa ein_179 e2_fz) (by decide) co_b425 ex2_196 ck_b425
/-! b426 X10_glyphHere -/
def as_b426 : List ev_V := [(2, 83, 0)]
def E_b426 : e2_E := [(2147483648, 2147583648, 0, 0), (2147483648, 2147483656, 1, 0), (2147483648, 2147485249, 2, 0)]
def bn2288 : e2_Q8 := (bn2270, bn1094)
noncomputable def f_b426 : ev_H := (bn2288 : e2_Q8)
noncomputable def q_b426_0 : ev_H := (bn2288 : e2_Q8)
noncomputable def rs_b426 : e2_Rs := [((0, 4294967295, 0), q_b426_0)]
noncomputable def s_b426 : e2_Sm := (190, as_b426, E_b426, f_b426, rs_b426)
noncomputable def S_b426 : List e2_Sm := [s_b269]
noncomputable def I_b426 : List e2_In := []
set_option maxRecDepth 1000000 in
theorem ck_b426 : e2_run (e2_cal S_b426 I_b426 4000 0) (e2_fin rs_b426) e2x_190 (fun _ => false) (fun _ _ _ _ _ => false) 4000 (e2_seek e2x_190 0) (e2_al 1 as_b426) [] E_b426 f_b426 = true := by decide +kernel
set_option maxRecDepth 1000000 in
theorem co_b426 : e2_okSB E_b426.length as_b426 f_b426 rs_b426 = true := by decide +kernel
theorem cs_b426 (hen : en_ok) (l : Launch) : e2_smOk l 2 s_b426 := e2_con0 (H := 1) (n := 0) (C := evd_190) (S := S_b426) (I := I_b426) (fuel := 4000) [] hen ei_190 (e2_fa (cs_b269 hen l) e2_fz) e2_fz (by decide) co_b426 ex2_190 ck_b426
/-! b427 X10_readGlyph -/
def as_b427 : List ev_V := [(2, 83, 0)]
def E_b427 : e2_E := [(2147483648, 2147583648, 0, 0), (2147483648, 2147483656, 1, 0), (2147483648, 2147485249, 2, 0)]
def bn2289 : e2_Q7 := (bn581, bn1440)
def bn2290 : e2_Q8 := (bn2166, bn2289)
noncomputable def f_b427 : ev_H := (bn2290 : e2_Q8)
def bn2291 : e2_Q7 := (bn581, bn1445)
def bn2292 : e2_Q8 := (bn2280, bn2291)
noncomputable def q_b427_0 : ev_H := (bn2292 : e2_Q8)
noncomputable def rs_b427 : e2_Rs := [((9, 0, 0), q_b427_0)]
noncomputable def s_b427 : e2_Sm := (196, as_b427, E_b427, f_b427, rs_b427)
noncomputable def S_b427 : List e2_Sm := [s_b118, s_b185, s_b234, s_b268, s_b271, s_b273, s_b426]
noncomputable def I_b427 : List e2_In := [(179, 3, e2x_179)]
set_option maxRecDepth 1000000 in
theorem ck_b427 : e2_run (e2_cal S_b427 I_b427 4000 1) (e2_fin rs_b427) e2x_196 (fun _ => false) (fun _ _ _ _ _ => false) 4000 (e2_seek e2x_196 0) (e2_al 2 as_b427) [] E_b427 f_b427 = true := by decide +kernel
set_option maxRecDepth 1000000 in
theorem co_b427 : e2_okSB E_b427.length as_b427 f_b427 rs_b427 = true := by decide +kernel
theorem cs_b427 (hen : en_ok) (l : Launch) (hh : e2_hand_b l) : e2_smOk l 62 s_b427 := e2_con0 (H := 60) (n := 1) (C := evd_196) (S := S_b427) (I := I_b427) (fuel := 4000) [] hen ei_196 (e2_fa (hh _ hm_b118) (e2_fa ((cs_b185 hen l).mono (by decide)) (e2_fa ((cs_b234 hen l).mono (by decide)) (e2_fa ((cs_b268 hen l).mono (by decide)) (e2_fa ((cs_b271 hen l).mono (by decide)) (e2_fa ((cs_b273 hen l).mono (by decide)) (e2_fa ((cs_b426 hen l).mono (by decide)) e2_fz))))))) (e2_fa ein_179 e2_fz) (by decide) co_b427 ex2_196 ck_b427
/-! b428 X10_glyphHere -/
def as_b428 : List ev_V := [(2, 83, 0)]
def E_b428 : e2_E := [(2147483648, 2147583648, 0, 0), (2147483648, 2147483656, 1, 0), (2147483648, 2147485249, 2, 0)]
def bn2293 : e2_Q8 := (bn2270, bn1146)
noncomputable def f_b428 : ev_H := (bn2293 : e2_Q8)
noncomputable def q_b428_0 : ev_H := (bn2293 : e2_Q8)
noncomputable def rs_b428 : e2_Rs := [((0, 4294967295, 0), q_b428_0)]
noncomputable def s_b428 : e2_Sm := (190, as_b428, E_b428, f_b428, rs_b428)
noncomputable def S_b428 : List e2_Sm := [s_b276]
noncomputable def I_b428 : List e2_In := []
set_option maxRecDepth 1000000 in
theorem ck_b428 : e2_run (e2_cal S_b428 I_b428 4000 0) (e2_fin rs_b428) e2x_190 (fun _ => false) (fun _ _ _ _ _ => false) 4000 (e2_seek e2x_190 0) (e2_al 1 as_b428) [] E_b428 f_b428 = true := by decide +kernel
set_option maxRecDepth 1000000 in
theorem co_b428 : e2_okSB E_b428.length as_b428 f_b428 rs_b428 = true := by decide +kernel
theorem cs_b428 (hen : en_ok) (l : Launch) : e2_smOk l 2 s_b428 := e2_con0 (H := 1) (n := 0) (C := evd_190) (S := S_b428) (I := I_b428) (fuel := 4000) [] hen ei_190 (e2_fa (cs_b276 hen l) e2_fz) e2_fz (by decide) co_b428 ex2_190 ck_b428
/-! b429 X10_readGlyph -/
def as_b429 : List ev_V := [(2, 83, 0)]
def E_b429 : e2_E := [(2147483648, 2147583648, 0, 0), (2147483648, 2147483656, 1, 0), (2147483648, 2147485249, 2, 0)]
def bn2294 : e2_Q7 := (bn581, bn1454)
def bn2295 : e2_Q8 := (bn2166, bn2294)
noncomputable def f_b429 : ev_H := (bn2295 : e2_Q8)
def bn2296 : e2_Q7 := (bn581, bn1459)
def bn2297 : e2_Q8 := (bn2280, bn2296)
noncomputable def q_b429_0 : ev_H := (bn2297 : e2_Q8)
noncomputable def rs_b429 : e2_Rs := [((9, 0, 0), q_b429_0)]
noncomputable def s_b429 : e2_Sm := (196, as_b429, E_b429, f_b429, rs_b429)
noncomputable def S_b429 : List e2_Sm := [s_b116, s_b178, s_b232, s_b275, s_b278, s_b280, s_b428]
noncomputable def I_b429 : List e2_In := [(179, 3, e2x_179)]
set_option maxRecDepth 1000000 in
theorem ck_b429 : e2_run (e2_cal S_b429 I_b429 4000 1) (e2_fin rs_b429) e2x_196 (fun _ => false) (fun _ _ _ _ _ => false) 4000 (e2_seek e2x_196 0) (e2_al 2 as_b429) [] E_b429 f_b429 = true := by decide +kernel
set_option maxRecDepth 1000000 in
theorem co_b429 : e2_okSB E_b429.length as_b429 f_b429 rs_b429 = true := by decide +kernel
theorem cs_b429 (hen : en_ok) (l : Launch) (hh : e2_hand_b l) : e2_smOk l 62 s_b429 := e2_con0 (H := 60) (n := 1) (C := evd_196) (S := S_b429) (I := I_b429) (fuel := 4000) [] hen ei_196 (e2_fa (hh _ hm_b116) (e2_fa ((cs_b178 hen l).mono (by decide)) (e2_fa ((cs_b232 hen l).mono (by decide)) (e2_fa ((cs_b275 hen l).mono (by decide)) (e2_fa ((cs_b278 hen l).mono (by decide)) (e2_fa ((cs_b280 hen l).mono (by decide)) (e2_fa ((cs_b428 hen l).mono (by decide)) e2_fz))))))) (e2_fa ein_179 e2_fz) (by decide) co_b429 ex2_196 ck_b429
/-! b430 X10_glyphHere -/
def as_b430 : List ev_V := [(2, 83, 0)]
def E_b430 : e2_E := [(2147483648, 2147583648, 0, 0), (2147483648, 2147483656, 1, 0), (2147483648, 2147485249, 2, 0)]
def bn2298 : e2_Q7 := (bn2269, bn1463)
def bn2299 : e2_Q8 := (bn2298, bn1150)
noncomputable def f_b430 : ev_H := (bn2299 : e2_Q8)
noncomputable def q_b430_0 : ev_H := (bn2299 : e2_Q8)
noncomputable def rs_b430 : e2_Rs := [((11, 2147483647, 2147483655), q_b430_0)]
noncomputable def s_b430 : e2_Sm := (190, as_b430, E_b430, f_b430, rs_b430)
noncomputable def S_b430 : List e2_Sm := [s_b283]
noncomputable def I_b430 : List e2_In := []
set_option maxRecDepth 1000000 in
theorem ck_b430 : e2_run (e2_cal S_b430 I_b430 4000 0) (e2_fin rs_b430) e2x_190 (fun _ => false) (fun _ _ _ _ _ => false) 4000 (e2_seek e2x_190 0) (e2_al 1 as_b430) [] E_b430 f_b430 = true := by decide +kernel
set_option maxRecDepth 1000000 in
theorem co_b430 : e2_okSB E_b430.length as_b430 f_b430 rs_b430 = true := by decide +kernel
theorem cs_b430 (hen : en_ok) (l : Launch) : e2_smOk l 2 s_b430 := e2_con0 (H := 1) (n := 0) (C := evd_190) (S := S_b430) (I := I_b430) (fuel := 4000) [] hen ei_190 (e2_fa (cs_b283 hen l) e2_fz) e2_fz (by decide) co_b430 ex2_190 ck_b430
/-! b431 X10_readGlyph -/
def as_b431 : List ev_V := [(2, 83, 0)]
def E_b431 : e2_E := [(2147483648, 2147583648, 0, 0), (2147483648, 2147483656, 1, 0), (2147483648, 2147485249, 2, 0)]
def bn2300 : e2_Q7 := (bn2189, bn1524)
def bn2301 : e2_Q8 := (bn2166, bn2300)
noncomputable def f_b431 : ev_H := (bn2301 : e2_Q8)
def bn2302 : e2_Q5 := (bn611, bn1488)
def bn2303 : e2_Q6 := (bn2302, bn356)
def bn2304 : e2_Q7 := (bn2303, bn1531)
def bn2305 : e2_Q8 := (bn2280, bn2304)
noncomputable def q_b431_0 : ev_H := (bn2305 : e2_Q8)
def bn2306 : e2_Q7 := (bn2189, bn1536)
def bn2307 : e2_Q8 := (bn2280, bn2306)
noncomputable def q_b431_1 : ev_H := (bn2307 : e2_Q8)
def bn2308 : e2_Q7 := (bn2303, bn1541)
def bn2309 : e2_Q8 := (bn2280, bn2308)
noncomputable def q_b431_2 : ev_H := (bn2309 : e2_Q8)
def bn2310 : e2_Q7 := (bn2303, bn1546)
def bn2311 : e2_Q8 := (bn2280, bn2310)
noncomputable def q_b431_3 : ev_H := (bn2311 : e2_Q8)
def bn2312 : e2_Q7 := (bn2303, bn1551)
def bn2313 : e2_Q8 := (bn2280, bn2312)
noncomputable def q_b431_4 : ev_H := (bn2313 : e2_Q8)
def bn2314 : e2_Q7 := (bn2303, bn1556)
def bn2315 : e2_Q8 := (bn2280, bn2314)
noncomputable def q_b431_5 : ev_H := (bn2315 : e2_Q8)
def bn2316 : e2_Q7 := (bn2303, bn1561)
def bn2317 : e2_Q8 := (bn2280, bn2316)
noncomputable def q_b431_6 : ev_H := (bn2317 : e2_Q8)
def bn2318 : e2_Q7 := (bn2303, bn1566)
def bn2319 : e2_Q8 := (bn2280, bn2318)
noncomputable def q_b431_7 : ev_H := (bn2319 : e2_Q8)
def bn2320 : e2_Q7 := (bn2303, bn1417)
def bn2321 : e2_Q8 := (bn2280, bn2320)
noncomputable def q_b431_8 : ev_H := (bn2321 : e2_Q8)
def bn2322 : e2_Q7 := (bn2303, bn1459)
def bn2323 : e2_Q8 := (bn2280, bn2322)
noncomputable def q_b431_9 : ev_H := (bn2323 : e2_Q8)
def bn2324 : e2_Q7 := (bn2189, bn1575)
def bn2325 : e2_Q8 := (bn2280, bn2324)
noncomputable def q_b431_10 : ev_H := (bn2325 : e2_Q8)
noncomputable def rs_b431 : e2_Rs := [((9, 0, 0), q_b431_0), ((9, 0, 0), q_b431_1), ((9, 0, 0), q_b431_2), ((9, 0, 0), q_b431_3), ((9, 0, 0), q_b431_4), ((9, 0, 0), q_b431_5), ((9, 0, 0), q_b431_6), ((9, 0, 0), q_b431_7), ((9, 0, 0), q_b431_8), ((9, 0, 0), q_b431_9), ((9, 0, 0), q_b431_10)]
noncomputable def s_b431 : e2_Sm := (196, as_b431, E_b431, f_b431, rs_b431)
noncomputable def S_b431 : List e2_Sm := [s_b119, s_b120, s_b121, s_b122, s_b123, s_b124, s_b181, s_b183, s_b184, s_b186, s_b188, s_b190, s_b191, s_b192, s_b232, s_b233, s_b235, s_b236, s_b237, s_b238, s_b239, s_b240, s_b241, s_b242, s_b243, s_b244, s_b257, s_b259, s_b278, s_b280, s_b282, s_b285, s_b286, s_b287, s_b288, s_b289, s_b290, s_b291, s_b292, s_b293, s_b294, s_b295, s_b297, s_b299, s_b301, s_b303, s_b305, s_b307, s_b309, s_b311, s_b313, s_b315, s_b430]
noncomputable def I_b431 : List e2_In := [(179, 3, e2x_179)]
set_option maxRecDepth 1000000 in
theorem ck_b431 : e2_run (e2_cal S_b431 I_b431 4000 1) (e2_fin rs_b431) e2x_196 (fun _ => false) (fun _ _ _ _ _ => false) 4000 (e2_seek e2x_196 0) (e2_al 2 as_b431) [] E_b431 f_b431 = true := by decide +kernel
set_option maxRecDepth 1000000 in
theorem co_b431 : e2_okSB E_b431.length as_b431 f_b431 rs_b431 = true := by decide +kernel
theorem cs_b431 (hen : en_ok) (l : Launch) (hh : e2_hand_b l) : e2_smOk l 62 s_b431 := e2_con0 (H := 60) (n := 1) (C := evd_196) (S := S_b431) (I := I_b431) (fuel := 4000) [] hen ei_196 (e2_fa (hh _ hm_b119) (e2_fa (hh _ hm_b120) (e2_fa (hh _ hm_b121) (e2_fa (hh _ hm_b122) (e2_fa (hh _ hm_b123) (e2_fa (hh _ hm_b124) (e2_fa ((cs_b181 hen l).mono (by decide)) (e2_fa ((cs_b183 hen l).mono (by decide)) (e2_fa ((cs_b184 hen l).mono (by decide)) (e2_fa ((cs_b186 hen l).mono (by decide)) (e2_fa ((cs_b188 hen l).mono (by decide)) (e2_fa ((cs_b190 hen l).mono (by decide)) (e2_fa ((cs_b191 hen l).mono (by decide)) (e2_fa ((cs_b192 hen l).mono (by decide)) (e2_fa ((cs_b232 hen l).mono (by decide)) (e2_fa ((cs_b233 hen l).mono (by decide)) (e2_fa ((cs_b235 hen l).mono (by decide)) (e2_fa ((cs_b236 hen l).mono (by decide)) (e2_fa ((cs_b237 hen l).mono (by decide)) (e2_fa ((cs_b238 hen l).mono (by decide)) (e2_fa ((cs_b239 hen l).mono (by decide)) (e2_fa ((cs_b240 hen l).mono (by decide)) (e2_fa ((cs_b241 hen l).mono (by decide)) (e2_fa ((cs_b242 hen l).mono (by decide)) (e2_fa ((cs_b243 hen l).mono (by decide)) (e2_fa ((cs_b244 hen l).mono (by decide)) (e2_fa ((cs_b257 hen l).mono (by decide)) (e2_fa ((cs_b259 hen l).mono (by decide)) (e2_fa ((cs_b278 hen l).mono (by decide)) (e2_fa ((cs_b280 hen l).mono (by decide)) (e2_fa ((cs_b282 hen l).mono (by decide)) (e2_fa ((cs_b285 hen l).mono (by decide)) (e2_fa ((cs_b286 hen l).mono (by decide)) (e2_fa ((cs_b287 hen l).mono (by decide)) (e2_fa ((cs_b288 hen l).mono (by decide)) (e2_fa ((cs_b289 hen l).mono (by decide)) (e2_fa ((cs_b290 hen l).mono (by decide)) (e2_fa ((cs_b291 hen l).mono (by decide)) (e2_fa ((cs_b292 hen l).mono (by decide)) (e2_fa ((cs_b293 hen l).mono (by decide)) (e2_fa ((cs_b294 hen l).mono (by decide)) (e2_fa ((cs_b295 hen l).mono (by decide)) (e2_fa ((cs_b297 hen l).mono (by decide)) (e2_fa ((cs_b299 hen l).mono (by decide)) (e2_fa ((cs_b301 hen l).mono (by decide)) (e2_fa ((cs_b303 hen l).mono (by decide)) (e2_fa ((cs_b305 hen l).mono (by decide)) (e2_fa ((cs_b307 hen l).mono (by decide)) (e2_fa ((cs_b309 hen l).mono (by decide)) (e2_fa ((cs_b311 hen l).mono (by decide)) (e2_fa ((cs_b313 hen l).mono (by decide)) (e2_fa ((cs_b315 hen l).mono (by decide)) (e2_fa ((cs_b430 hen l).mono (by decide)) e2_fz))))))))))))))))))))))))))))))))))))))))))))))))))))) (e2_fa ein_179 e2_fz) (by decide) co_b431 ex2_196 ck_b431
/-! b432 X10_readNever -/
def as_b432 : List ev_V := [(2, 83, 0)]
def E_b432 : e2_E := [(2147483648, 2147583648, 0, 0), (2147483648, 2147483656, 1, 0), (2147483648, 2147485249, 2, 0)]
noncomputable def f_b432 : ev_H := (bn2271 : e2_Q8)
def bn2326 : e2_Q8 := (bn2270, bn1084)
noncomputable def q_b432_0 : ev_H := (bn2326 : e2_Q8)
noncomputable def rs_b432 : e2_Rs := [((9, 0, 0), q_b432_0)]
noncomputable def s_b432 : e2_Sm := (197, as_b432, E_b432, f_b432, rs_b432)
noncomputable def S_b432 : List e2_Sm := [s_b285, s_b422]
noncomputable def I_b432 : List e2_In := [(174, 1, e2x_174)]
set_option maxRecDepth 1000000 in
theorem ck_b432 : e2_run (e2_cal S_b432 I_b432 4000 1) (e2_fin rs_b432) e2x_197 (fun _ => false) (fun _ _ _ _ _ => false) 4000 (e2_seek e2x_197 0) (e2_al 3 as_b432) [] E_b432 f_b432 = true := by decide +kernel
set_option maxRecDepth 1000000 in
theorem co_b432 : e2_okSB E_b432.length as_b432 f_b432 rs_b432 = true := by decide +kernel
theorem cs_b432 (hen : en_ok) (l : Launch) : e2_smOk l 5 s_b432 := e2_con0 (H := 3) (n := 1) (C := evd_197) (S := S_b432) (I := I_b432) (fuel := 4000) [] hen ei_197 (e2_fa (cs_b285 hen l) (e2_fa ((cs_b422 hen l).mono (by decide)) e2_fz)) (e2_fa ein_174 e2_fz) (by decide) co_b432 ex2_197 ck_b432
/-! b433 X10_readNever -/
def as_b433 : List ev_V := [(2, 83, 0)]
def E_b433 : e2_E := [(2147483648, 2147583648, 0, 0), (2147483648, 2147483656, 1, 0), (2147483648, 2147485249, 2, 0)]
noncomputable def f_b433 : ev_H := (bn2283 : e2_Q8)
def bn2327 : e2_Q8 := (bn2270, bn1090)
noncomputable def q_b433_0 : ev_H := (bn2327 : e2_Q8)
noncomputable def rs_b433 : e2_Rs := [((9, 0, 0), q_b433_0)]
noncomputable def s_b433 : e2_Sm := (197, as_b433, E_b433, f_b433, rs_b433)
noncomputable def S_b433 : List e2_Sm := [s_b318, s_b424]
noncomputable def I_b433 : List e2_In := [(174, 1, e2x_174)]
set_option maxRecDepth 1000000 in
theorem ck_b433 : e2_run (e2_cal S_b433 I_b433 4000 1) (e2_fin rs_b433) e2x_197 (fun _ => false) (fun _ _ _ _ _ => false) 4000 (e2_seek e2x_197 0) (e2_al 3 as_b433) [] E_b433 f_b433 = true := by decide +kernel
set_option maxRecDepth 1000000 in
theorem co_b433 : e2_okSB E_b433.length as_b433 f_b433 rs_b433 = true := by decide +kernel
theorem cs_b433 (hen : en_ok) (l : Launch) : e2_smOk l 5 s_b433 := e2_con0 (H := 3) (n := 1) (C := evd_197) (S := S_b433) (I := I_b433) (fuel := 4000) [] hen ei_197 (e2_fa (cs_b318 hen l) (e2_fa ((cs_b424 hen l).mono (by decide)) e2_fz)) (e2_fa ein_174 e2_fz) (by decide) co_b433 ex2_197 ck_b433
/-! b434 X10_readNever -/
def as_b434 : List ev_V := [(2, 83, 0)]
def E_b434 : e2_E := [(2147483648, 2147583648, 0, 0), (2147483648, 2147483656, 1, 0), (2147483648, 2147485249, 2, 0)]
noncomputable def f_b434 : ev_H := (bn2288 : e2_Q8)
def bn2328 : e2_Q8 := (bn2270, bn1096)
noncomputable def q_b434_0 : ev_H := (bn2328 : e2_Q8)
noncomputable def rs_b434 : e2_Rs := [((9, 0, 0), q_b434_0)]
noncomputable def s_b434 : e2_Sm := (197, as_b434, E_b434, f_b434, rs_b434)
noncomputable def S_b434 : List e2_Sm := [s_b320, s_b426]
noncomputable def I_b434 : List e2_In := [(174, 1, e2x_174)]
set_option maxRecDepth 1000000 in
theorem ck_b434 : e2_run (e2_cal S_b434 I_b434 4000 1) (e2_fin rs_b434) e2x_197 (fun _ => false) (fun _ _ _ _ _ => false) 4000 (e2_seek e2x_197 0) (e2_al 3 as_b434) [] E_b434 f_b434 = true := by decide +kernel
set_option maxRecDepth 1000000 in
theorem co_b434 : e2_okSB E_b434.length as_b434 f_b434 rs_b434 = true := by decide +kernel
theorem cs_b434 (hen : en_ok) (l : Launch) : e2_smOk l 5 s_b434 := e2_con0 (H := 3) (n := 1) (C := evd_197) (S := S_b434) (I := I_b434) (fuel := 4000) [] hen ei_197 (e2_fa (cs_b320 hen l) (e2_fa ((cs_b426 hen l).mono (by decide)) e2_fz)) (e2_fa ein_174 e2_fz) (by decide) co_b434 ex2_197 ck_b434
/-! b435 X10_readNever -/
def as_b435 : List ev_V := [(2, 83, 0)]
def E_b435 : e2_E := [(2147483648, 2147583648, 0, 0), (2147483648, 2147483656, 1, 0), (2147483648, 2147485249, 2, 0)]
noncomputable def f_b435 : ev_H := (bn2293 : e2_Q8)
def bn2329 : e2_Q8 := (bn2270, bn1082)
noncomputable def q_b435_0 : ev_H := (bn2329 : e2_Q8)
noncomputable def rs_b435 : e2_Rs := [((9, 0, 0), q_b435_0)]
noncomputable def s_b435 : e2_Sm := (197, as_b435, E_b435, f_b435, rs_b435)
noncomputable def S_b435 : List e2_Sm := [s_b288, s_b428]
noncomputable def I_b435 : List e2_In := [(174, 1, e2x_174)]
set_option maxRecDepth 1000000 in
theorem ck_b435 : e2_run (e2_cal S_b435 I_b435 4000 1) (e2_fin rs_b435) e2x_197 (fun _ => false) (fun _ _ _ _ _ => false) 4000 (e2_seek e2x_197 0) (e2_al 3 as_b435) [] E_b435 f_b435 = true := by decide +kernel
set_option maxRecDepth 1000000 in
theorem co_b435 : e2_okSB E_b435.length as_b435 f_b435 rs_b435 = true := by decide +kernel
theorem cs_b435 (hen : en_ok) (l : Launch) : e2_smOk l 5 s_b435 := e2_con0 (H := 3) (n := 1) (C := evd_197) (S := S_b435) (I := I_b435) (fuel := 4000) [] hen ei_197 (e2_fa (cs_b288 hen l) (e2_fa ((cs_b428 hen l).mono (by decide)) e2_fz)) (e2_fa ein_174 e2_fz) (by decide) co_b435 ex2_197 ck_b435
/-! b436 X10_glyphHere -/
def as_b436 : List ev_V := [(2, 83, 0)]
def E_b436 : e2_E := [(2147483648, 2147583648, 0, 0), (2147483648, 2147483656, 1, 0), (2147483648, 2147485249, 2, 0)]
def bn2330 : e2_Q8 := (bn2270, bn1152)
noncomputable def f_b436 : ev_H := (bn2330 : e2_Q8)
noncomputable def q_b436_0 : ev_H := (bn2330 : e2_Q8)
noncomputable def rs_b436 : e2_Rs := [((0, 4294967295, 0), q_b436_0)]
noncomputable def s_b436 : e2_Sm := (190, as_b436, E_b436, f_b436, rs_b436)
noncomputable def S_b436 : List e2_Sm := [s_b323]
noncomputable def I_b436 : List e2_In := []
set_option maxRecDepth 1000000 in
theorem ck_b436 : e2_run (e2_cal S_b436 I_b436 4000 0) (e2_fin rs_b436) e2x_190 (fun _ => false) (fun _ _ _ _ _ => false) 4000 (e2_seek e2x_190 0) (e2_al 1 as_b436) [] E_b436 f_b436 = true := by decide +kernel
set_option maxRecDepth 1000000 in
theorem co_b436 : e2_okSB E_b436.length as_b436 f_b436 rs_b436 = true := by decide +kernel
theorem cs_b436 (hen : en_ok) (l : Launch) : e2_smOk l 2 s_b436 := e2_con0 (H := 1) (n := 0) (C := evd_190) (S := S_b436) (I := I_b436) (fuel := 4000) [] hen ei_190 (e2_fa (cs_b323 hen l) e2_fz) e2_fz (by decide) co_b436 ex2_190 ck_b436
/-! b437 X10_glyphHere -/
def as_b437 : List ev_V := [(2, 83, 0)]
def E_b437 : e2_E := [(2147483648, 2147583648, 0, 0), (2147483648, 2147483656, 1, 0), (2147483648, 2147485249, 2, 0)]
def bn2331 : e2_Q8 := (bn2270, bn1198)
noncomputable def f_b437 : ev_H := (bn2331 : e2_Q8)
noncomputable def q_b437_0 : ev_H := (bn2331 : e2_Q8)
noncomputable def rs_b437 : e2_Rs := [((0, 4294967295, 0), q_b437_0)]
noncomputable def s_b437 : e2_Sm := (190, as_b437, E_b437, f_b437, rs_b437)
noncomputable def S_b437 : List e2_Sm := [s_b325]
noncomputable def I_b437 : List e2_In := []
set_option maxRecDepth 1000000 in
theorem ck_b437 : e2_run (e2_cal S_b437 I_b437 4000 0) (e2_fin rs_b437) e2x_190 (fun _ => false) (fun _ _ _ _ _ => false) 4000 (e2_seek e2x_190 0) (e2_al 1 as_b437) [] E_b437 f_b437 = true := by decide +kernel
set_option maxRecDepth 1000000 in
theorem co_b437 : e2_okSB E_b437.length as_b437 f_b437 rs_b437 = true := by decide +kernel
theorem cs_b437 (hen : en_ok) (l : Launch) : e2_smOk l 2 s_b437 := e2_con0 (H := 1) (n := 0) (C := evd_190) (S := S_b437) (I := I_b437) (fuel := 4000) [] hen ei_190 (e2_fa (cs_b325 hen l) e2_fz) e2_fz (by decide) co_b437 ex2_190 ck_b437
/-! b438 X10_readNever -/
def as_b438 : List ev_V := [(2, 83, 0)]
def E_b438 : e2_E := [(2147483648, 2147583648, 0, 0), (2147483648, 2147483656, 1, 0), (2147483648, 2147485249, 2, 0)]
def bn2332 : e2_Q6 := (bn2268, bn1584)
def bn2333 : e2_Q7 := (bn2332, bn1463)
def bn2334 : e2_Q8 := (bn2333, bn1588)
noncomputable def f_b438 : ev_H := (bn2334 : e2_Q8)
def bn2335 : e2_Q8 := (bn2333, bn1590)
noncomputable def q_b438_0 : ev_H := (bn2335 : e2_Q8)
def bn2336 : e2_Q8 := (bn2333, bn1592)
noncomputable def q_b438_1 : ev_H := (bn2336 : e2_Q8)
def bn2337 : e2_Q8 := (bn2333, bn1594)
noncomputable def q_b438_2 : ev_H := (bn2337 : e2_Q8)
def bn2338 : e2_Q8 := (bn2333, bn1596)
noncomputable def q_b438_3 : ev_H := (bn2338 : e2_Q8)
def bn2339 : e2_Q8 := (bn2333, bn1598)
noncomputable def q_b438_4 : ev_H := (bn2339 : e2_Q8)
def bn2340 : e2_Q8 := (bn2333, bn1600)
noncomputable def q_b438_5 : ev_H := (bn2340 : e2_Q8)
def bn2341 : e2_Q8 := (bn2333, bn1602)
noncomputable def q_b438_6 : ev_H := (bn2341 : e2_Q8)
def bn2342 : e2_Q8 := (bn2333, bn1604)
noncomputable def q_b438_7 : ev_H := (bn2342 : e2_Q8)
def bn2343 : e2_Q8 := (bn2333, bn1606)
noncomputable def q_b438_8 : ev_H := (bn2343 : e2_Q8)
def bn2344 : e2_Q8 := (bn2333, bn1608)
noncomputable def q_b438_9 : ev_H := (bn2344 : e2_Q8)
noncomputable def rs_b438 : e2_Rs := [((9, 0, 0), q_b438_0), ((9, 0, 0), q_b438_1), ((9, 0, 0), q_b438_2), ((9, 0, 0), q_b438_3), ((9, 0, 0), q_b438_4), ((9, 0, 0), q_b438_5), ((9, 0, 0), q_b438_6), ((9, 0, 0), q_b438_7), ((9, 0, 0), q_b438_8), ((9, 0, 0), q_b438_9)]
noncomputable def s_b438 : e2_Sm := (197, as_b438, E_b438, f_b438, rs_b438)
noncomputable def S_b438 : List e2_Sm := [s_b285, s_b286, s_b287, s_b288, s_b327, s_b328, s_b329, s_b330, s_b422, s_b428, s_b430, s_b436, s_b437]
noncomputable def I_b438 : List e2_In := [(173, 3, e2x_173), (174, 1, e2x_174)]
set_option maxRecDepth 1000000 in
theorem ck_b438 : e2_run (e2_cal S_b438 I_b438 4000 1) (e2_fin rs_b438) e2x_197 (fun _ => false) (fun _ _ _ _ _ => false) 4000 (e2_seek e2x_197 0) (e2_al 3 as_b438) [] E_b438 f_b438 = true := by decide +kernel
set_option maxRecDepth 1000000 in
theorem co_b438 : e2_okSB E_b438.length as_b438 f_b438 rs_b438 = true := by decide +kernel
theorem cs_b438 (hen : en_ok) (l : Launch) : e2_smOk l 8 s_b438 := e2_con0 (H := 6) (n := 1) (C := evd_197) (S := S_b438) (I := I_b438) (fuel := 4000) [] hen ei_197 (e2_fa ((cs_b285 hen l).mono (by decide)) (e2_fa ((cs_b286 hen l).mono (by decide)) (e2_fa ((cs_b287 hen l).mono (by decide)) (e2_fa ((cs_b288 hen l).mono (by decide)) (e2_fa ((cs_b327 hen l).mono (by decide)) (e2_fa (cs_b328 hen l) (e2_fa (cs_b329 hen l) (e2_fa ((cs_b330 hen l).mono (by decide)) (e2_fa ((cs_b422 hen l).mono (by decide)) (e2_fa ((cs_b428 hen l).mono (by decide)) (e2_fa ((cs_b430 hen l).mono (by decide)) (e2_fa ((cs_b436 hen l).mono (by decide)) (e2_fa ((cs_b437 hen l).mono (by decide)) e2_fz))))))))))))) (e2_fa ein_173 (e2_fa ein_174 e2_fz)) (by decide) co_b438 ex2_197 ck_b438
/-! b439 X10_readLine -/
def as_b439 : List ev_V := [(2, 83, 0)]
def E_b439 : e2_E := [(2147483648, 2147583648, 0, 0), (2147483648, 2147483656, 1, 0), (2147483648, 2147485249, 2, 0)]
def bn2345 : e2_Q7 := (bn2254, bn1735)
def bn2346 : e2_Q8 := (bn2248, bn2345)
noncomputable def f_b439 : ev_H := (bn2346 : e2_Q8)
def bn2347 : e2_Q7 := (bn2254, bn1743)
def bn2348 : e2_Q8 := (bn2248, bn2347)
noncomputable def q_b439_0 : ev_H := (bn2348 : e2_Q8)
def bn2349 : e2_Q7 := (bn2254, bn1748)
def bn2350 : e2_Q8 := (bn2248, bn2349)
noncomputable def q_b439_1 : ev_H := (bn2350 : e2_Q8)
def bn2351 : e2_Q7 := (bn2254, bn1752)
def bn2352 : e2_Q8 := (bn2248, bn2351)
noncomputable def q_b439_2 : ev_H := (bn2352 : e2_Q8)
def bn2353 : e2_Q7 := (bn2254, bn1756)
def bn2354 : e2_Q8 := (bn2248, bn2353)
noncomputable def q_b439_3 : ev_H := (bn2354 : e2_Q8)
noncomputable def q_b439_4 : ev_H := (bn2256 : e2_Q8)
noncomputable def q_b439_5 : ev_H := (bn2258 : e2_Q8)
noncomputable def q_b439_6 : ev_H := (bn2260 : e2_Q8)
noncomputable def q_b439_7 : ev_H := (bn2262 : e2_Q8)
noncomputable def q_b439_8 : ev_H := (bn2264 : e2_Q8)
def bn2355 : e2_Q7 := (bn2254, bn1780)
def bn2356 : e2_Q8 := (bn2248, bn2355)
noncomputable def q_b439_9 : ev_H := (bn2356 : e2_Q8)
def bn2357 : e2_Q7 := (bn2254, bn1784)
def bn2358 : e2_Q8 := (bn2248, bn2357)
noncomputable def q_b439_10 : ev_H := (bn2358 : e2_Q8)
def bn2359 : e2_Q4 := (bn747, bn2276)
def bn2360 : e2_Q5 := (bn329, bn2359)
def bn2361 : e2_Q6 := (bn2360, bn1717)
def bn2362 : e2_Q7 := (bn2361, bn1724)
def bn2363 : e2_Q8 := (bn2362, bn2349)
noncomputable def q_b439_11 : ev_H := (bn2363 : e2_Q8)
def bn2364 : e2_Q8 := (bn2362, bn2351)
noncomputable def q_b439_12 : ev_H := (bn2364 : e2_Q8)
def bn2365 : e2_Q8 := (bn2362, bn2355)
noncomputable def q_b439_13 : ev_H := (bn2365 : e2_Q8)
def bn2366 : e2_Q8 := (bn2362, bn2357)
noncomputable def q_b439_14 : ev_H := (bn2366 : e2_Q8)
def bn2367 : e2_Q5 := (bn611, bn1726)
def bn2368 : e2_Q6 := (bn2367, bn1729)
def bn2369 : e2_Q7 := (bn2368, bn1760)
def bn2370 : e2_Q8 := (bn2362, bn2369)
noncomputable def q_b439_15 : ev_H := (bn2370 : e2_Q8)
def bn2371 : e2_Q7 := (bn2368, bn1764)
def bn2372 : e2_Q8 := (bn2362, bn2371)
noncomputable def q_b439_16 : ev_H := (bn2372 : e2_Q8)
def bn2373 : e2_Q7 := (bn2368, bn1768)
def bn2374 : e2_Q8 := (bn2362, bn2373)
noncomputable def q_b439_17 : ev_H := (bn2374 : e2_Q8)
def bn2375 : e2_Q7 := (bn2368, bn1772)
def bn2376 : e2_Q8 := (bn2362, bn2375)
noncomputable def q_b439_18 : ev_H := (bn2376 : e2_Q8)
def bn2377 : e2_Q7 := (bn2368, bn1776)
def bn2378 : e2_Q8 := (bn2362, bn2377)
noncomputable def q_b439_19 : ev_H := (bn2378 : e2_Q8)
def bn2379 : e2_Q7 := (bn2254, bn1808)
def bn2380 : e2_Q8 := (bn2362, bn2379)
noncomputable def q_b439_20 : ev_H := (bn2380 : e2_Q8)
def bn2381 : e2_Q8 := (bn2362, bn2353)
noncomputable def q_b439_21 : ev_H := (bn2381 : e2_Q8)
noncomputable def rs_b439 : e2_Rs := [((9, 0, 0), q_b439_0), ((9, 0, 0), q_b439_1), ((9, 0, 0), q_b439_2), ((9, 0, 0), q_b439_3), ((9, 0, 0), q_b439_4), ((9, 0, 0), q_b439_5), ((9, 0, 0), q_b439_6), ((9, 0, 0), q_b439_7), ((9, 0, 0), q_b439_8), ((9, 0, 0), q_b439_9), ((9, 0, 0), q_b439_10), ((9, 0, 0), q_b439_11), ((9, 0, 0), q_b439_12), ((9, 0, 0), q_b439_13), ((9, 0, 0), q_b439_14), ((9, 0, 0), q_b439_15), ((9, 0, 0), q_b439_16), ((9, 0, 0), q_b439_17), ((9, 0, 0), q_b439_18), ((9, 0, 0), q_b439_19), ((9, 0, 0), q_b439_20), ((9, 0, 0), q_b439_21)]
noncomputable def s_b439 : e2_Sm := (187, as_b439, E_b439, f_b439, rs_b439)
noncomputable def S_b439 : List e2_Sm := [s_b173, s_b178, s_b179, s_b180, s_b181, s_b182, s_b183, s_b184, s_b185, s_b186, s_b187, s_b188, s_b189, s_b190, s_b191, s_b192, s_b193, s_b194, s_b195, s_b196, s_b197, s_b198, s_b199, s_b217, s_b218, s_b219, s_b220, s_b221, s_b249, s_b250, s_b251, s_b252, s_b253, s_b332, s_b333, s_b334, s_b335, s_b336, s_b338, s_b341, s_b344, s_b346, s_b348, s_b423, s_b425, s_b427, s_b429, s_b431, s_b432, s_b433, s_b434, s_b435, s_b438]
noncomputable def I_b439 : List e2_In := [(170, 2, e2x_170), (173, 3, e2x_173), (174, 1, e2x_174), (178, 2, e2x_178), (179, 3, e2x_179), (180, 1, e2x_180), (186, 1, e2x_186)]
set_option maxRecDepth 1000000 in
theorem ck_b439 : e2_run (e2_cal S_b439 I_b439 4000 2) (e2_fin rs_b439) e2x_187 (fun _ => false) (fun _ _ _ _ _ => false) 4000 (e2_seek e2x_187 0) (e2_al 3 as_b439) [] E_b439 f_b439 = true := by decide +kernel
set_option maxRecDepth 1000000 in
theorem co_b439 : e2_okSB E_b439.length as_b439 f_b439 rs_b439 = true := by decide +kernel
theorem cs_b439 (hen : en_ok) (l : Launch) (hh : e2_hand_b l) : e2_smOk l 65 s_b439 := e2_con0 (H := 62) (n := 2) (C := evd_187) (S := S_b439) (I := I_b439) (fuel := 4000) [] hen ei_187 (e2_fa ((cs_b173 hen l).mono (by decide)) (e2_fa ((cs_b178 hen l).mono (by decide)) (e2_fa ((cs_b179 hen l).mono (by decide)) (e2_fa ((cs_b180 hen l).mono (by decide)) (e2_fa ((cs_b181 hen l).mono (by decide)) (e2_fa ((cs_b182 hen l).mono (by decide)) (e2_fa ((cs_b183 hen l).mono (by decide)) (e2_fa ((cs_b184 hen l).mono (by decide)) (e2_fa ((cs_b185 hen l).mono (by decide)) (e2_fa ((cs_b186 hen l).mono (by decide)) (e2_fa ((cs_b187 hen l).mono (by decide)) (e2_fa ((cs_b188 hen l).mono (by decide)) (e2_fa ((cs_b189 hen l).mono (by decide)) (e2_fa ((cs_b190 hen l).mono (by decide)) (e2_fa ((cs_b191 hen l).mono (by decide)) (e2_fa ((cs_b192 hen l).mono (by decide)) (e2_fa ((cs_b193 hen l).mono (by decide)) (e2_fa ((cs_b194 hen l).mono (by decide)) (e2_fa ((cs_b195 hen l).mono (by decide)) (e2_fa ((cs_b196 hen l).mono (by decide)) (e2_fa ((cs_b197 hen l).mono (by decide)) (e2_fa ((cs_b198 hen l).mono (by decide)) (e2_fa ((cs_b199 hen l).mono (by decide)) (e2_fa ((cs_b217 hen l).mono (by decide)) (e2_fa ((cs_b218 hen l).mono (by decide)) (e2_fa ((cs_b219 hen l).mono (by decide)) (e2_fa ((cs_b220 hen l).mono (by decide)) (e2_fa ((cs_b221 hen l).mono (by decide)) (e2_fa ((cs_b249 hen l).mono (by decide)) (e2_fa ((cs_b250 hen l).mono (by decide)) (e2_fa ((cs_b251 hen l).mono (by decide)) (e2_fa ((cs_b252 hen l).mono (by decide)) (e2_fa ((cs_b253 hen l).mono (by decide)) (e2_fa ((cs_b332 hen l hh).mono (by decide)) (e2_fa ((cs_b333 hen l hh).mono (by decide)) (e2_fa ((cs_b334 hen l hh).mono (by decide)) (e2_fa ((cs_b335 hen l hh).mono (by decide)) (e2_fa ((cs_b336 hen l hh).mono (by decide)) (e2_fa ((cs_b338 hen l).mono (by decide)) (e2_fa ((cs_b341 hen l).mono (by decide)) (e2_fa ((cs_b344 hen l).mono (by decide)) (e2_fa ((cs_b346 hen l).mono (by decide)) (e2_fa ((cs_b348 hen l).mono (by decide)) (e2_fa (cs_b423 hen l hh) (e2_fa (cs_b425 hen l hh) (e2_fa (cs_b427 hen l hh) (e2_fa (cs_b429 hen l hh) (e2_fa (cs_b431 hen l hh) (e2_fa ((cs_b432 hen l).mono (by decide)) (e2_fa ((cs_b433 hen l).mono (by decide)) (e2_fa ((cs_b434 hen l).mono (by decide)) (e2_fa ((cs_b435 hen l).mono (by decide)) (e2_fa ((cs_b438 hen l).mono (by decide)) e2_fz))))))))))))))))))))))))))))))))))))))))))))))))))))) (e2_fa ein_170 (e2_fa ein_173 (e2_fa ein_174 (e2_fa ein_178 (e2_fa ein_179 (e2_fa ein_180 (e2_fa ein_186 e2_fz))))))) (by decide) co_b439 ex2_187 ck_b439
/-! b440 X10_glyphHere -/
def as_b440 : List ev_V := [(2, 83, 0)]
def E_b440 : e2_E := [(2147483648, 2147583648, 0, 0), (2147483648, 2147483656, 1, 0), (2147483648, 2147485249, 2, 0)]
def bn2382 : e2_Q5 := (bn14, bn2277)
def bn2383 : e2_Q6 := (bn2382, bn338)
def bn2384 : e2_Q7 := (bn2383, bn345)
def bn2385 : e2_Q8 := (bn2384, bn1098)
noncomputable def f_b440 : ev_H := (bn2385 : e2_Q8)
noncomputable def q_b440_0 : ev_H := (bn2385 : e2_Q8)
noncomputable def rs_b440 : e2_Rs := [((0, 4294967295, 0), q_b440_0)]
noncomputable def s_b440 : e2_Sm := (190, as_b440, E_b440, f_b440, rs_b440)
noncomputable def S_b440 : List e2_Sm := [s_b255]
noncomputable def I_b440 : List e2_In := []
set_option maxRecDepth 1000000 in
theorem ck_b440 : e2_run (e2_cal S_b440 I_b440 4000 0) (e2_fin rs_b440) e2x_190 (fun _ => false) (fun _ _ _ _ _ => false) 4000 (e2_seek e2x_190 0) (e2_al 1 as_b440) [] E_b440 f_b440 = true := by decide +kernel
set_option maxRecDepth 1000000 in
theorem co_b440 : e2_okSB E_b440.length as_b440 f_b440 rs_b440 = true := by decide +kernel
theorem cs_b440 (hen : en_ok) (l : Launch) : e2_smOk l 2 s_b440 := e2_con0 (H := 1) (n := 0) (C := evd_190) (S := S_b440) (I := I_b440) (fuel := 4000) [] hen ei_190 (e2_fa (cs_b255 hen l) e2_fz) e2_fz (by decide) co_b440 ex2_190 ck_b440
/-! b441 X10_readGlyph -/
def as_b441 : List ev_V := [(2, 83, 0)]
def E_b441 : e2_E := [(2147483648, 2147583648, 0, 0), (2147483648, 2147483656, 1, 0), (2147483648, 2147485249, 2, 0)]
def bn2386 : e2_Q7 := (bn613, bn1405)
def bn2387 : e2_Q8 := (bn2280, bn2386)
noncomputable def f_b441 : ev_H := (bn2387 : e2_Q8)
def bc247 : ev_C := (50, [(1, 1, 4294967296), (0, 7, 0)])
def bn2388 : e2_Q1 := (bc247, bc3)
def bn2389 : e2_Q2 := (bn22, bn2388)
def bn2390 : e2_Q3 := (bn2389, bn27)
def bn2391 : e2_Q4 := (bn21, bn2390)
def bn2392 : e2_Q5 := (bn329, bn2391)
def bn2393 : e2_Q6 := (bn2392, bn338)
def bn2394 : e2_Q7 := (bn2393, bn1399)
def bn2395 : e2_Q7 := (bn613, bn1417)
def bn2396 : e2_Q8 := (bn2394, bn2395)
noncomputable def q_b441_0 : ev_H := (bn2396 : e2_Q8)
noncomputable def rs_b441 : e2_Rs := [((9, 0, 0), q_b441_0)]
noncomputable def s_b441 : e2_Sm := (196, as_b441, E_b441, f_b441, rs_b441)
noncomputable def S_b441 : List e2_Sm := [s_b137, s_b179, s_b233, s_b254, s_b257, s_b259, s_b440]
noncomputable def I_b441 : List e2_In := [(179, 3, e2x_179)]
set_option maxRecDepth 1000000 in
theorem ck_b441 : e2_run (e2_cal S_b441 I_b441 4000 1) (e2_fin rs_b441) e2x_196 (fun _ => false) (fun _ _ _ _ _ => false) 4000 (e2_seek e2x_196 0) (e2_al 2 as_b441) [] E_b441 f_b441 = true := by decide +kernel
set_option maxRecDepth 1000000 in
theorem co_b441 : e2_okSB E_b441.length as_b441 f_b441 rs_b441 = true := by decide +kernel
theorem cs_b441 (hen : en_ok) (l : Launch) (hh : e2_hand_b l) : e2_smOk l 62 s_b441 := e2_con0 (H := 60) (n := 1) (C := evd_196) (S := S_b441) (I := I_b441) (fuel := 4000) [] hen ei_196 (e2_fa (hh _ hm_b137) (e2_fa ((cs_b179 hen l).mono (by decide)) (e2_fa ((cs_b233 hen l).mono (by decide)) (e2_fa ((cs_b254 hen l).mono (by decide)) (e2_fa ((cs_b257 hen l).mono (by decide)) (e2_fa ((cs_b259 hen l).mono (by decide)) (e2_fa ((cs_b440 hen l).mono (by decide)) e2_fz))))))) (e2_fa ein_179 e2_fz) (by decide) co_b441 ex2_196 ck_b441
/-! b442 X10_glyphHere -/
def as_b442 : List ev_V := [(2, 83, 0)]
def E_b442 : e2_E := [(2147483648, 2147583648, 0, 0), (2147483648, 2147483656, 1, 0), (2147483648, 2147485249, 2, 0)]
def bn2397 : e2_Q8 := (bn2384, bn1088)
noncomputable def f_b442 : ev_H := (bn2397 : e2_Q8)
noncomputable def q_b442_0 : ev_H := (bn2397 : e2_Q8)
noncomputable def rs_b442 : e2_Rs := [((0, 4294967295, 0), q_b442_0)]
noncomputable def s_b442 : e2_Sm := (190, as_b442, E_b442, f_b442, rs_b442)
noncomputable def S_b442 : List e2_Sm := [s_b262]
noncomputable def I_b442 : List e2_In := []
set_option maxRecDepth 1000000 in
theorem ck_b442 : e2_run (e2_cal S_b442 I_b442 4000 0) (e2_fin rs_b442) e2x_190 (fun _ => false) (fun _ _ _ _ _ => false) 4000 (e2_seek e2x_190 0) (e2_al 1 as_b442) [] E_b442 f_b442 = true := by decide +kernel
set_option maxRecDepth 1000000 in
theorem co_b442 : e2_okSB E_b442.length as_b442 f_b442 rs_b442 = true := by decide +kernel
theorem cs_b442 (hen : en_ok) (l : Launch) : e2_smOk l 2 s_b442 := e2_con0 (H := 1) (n := 0) (C := evd_190) (S := S_b442) (I := I_b442) (fuel := 4000) [] hen ei_190 (e2_fa (cs_b262 hen l) e2_fz) e2_fz (by decide) co_b442 ex2_190 ck_b442
/-! b443 X10_readGlyph -/
def as_b443 : List ev_V := [(2, 83, 0)]
def E_b443 : e2_E := [(2147483648, 2147583648, 0, 0), (2147483648, 2147483656, 1, 0), (2147483648, 2147485249, 2, 0)]
def bn2398 : e2_Q7 := (bn613, bn1426)
def bn2399 : e2_Q8 := (bn2280, bn2398)
noncomputable def f_b443 : ev_H := (bn2399 : e2_Q8)
def bn2400 : e2_Q7 := (bn613, bn1431)
def bn2401 : e2_Q8 := (bn2394, bn2400)
noncomputable def q_b443_0 : ev_H := (bn2401 : e2_Q8)
noncomputable def rs_b443 : e2_Rs := [((9, 0, 0), q_b443_0)]
noncomputable def s_b443 : e2_Sm := (196, as_b443, E_b443, f_b443, rs_b443)
noncomputable def S_b443 : List e2_Sm := [s_b145, s_b187, s_b245, s_b261, s_b264, s_b266, s_b442]
noncomputable def I_b443 : List e2_In := [(179, 3, e2x_179)]
set_option maxRecDepth 1000000 in
theorem ck_b443 : e2_run (e2_cal S_b443 I_b443 4000 1) (e2_fin rs_b443) e2x_196 (fun _ => false) (fun _ _ _ _ _ => false) 4000 (e2_seek e2x_196 0) (e2_al 2 as_b443) [] E_b443 f_b443 = true := by decide +kernel
set_option maxRecDepth 1000000 in
theorem co_b443 : e2_okSB E_b443.length as_b443 f_b443 rs_b443 = true := by decide +kernel
theorem cs_b443 (hen : en_ok) (l : Launch) (hh : e2_hand_b l) : e2_smOk l 62 s_b443 := e2_con0 (H := 60) (n := 1) (C := evd_196) (S := S_b443) (I := I_b443) (fuel := 4000) [] hen ei_196 (e2_fa (hh _ hm_b145) (e2_fa ((cs_b187 hen l).mono (by decide)) (e2_fa ((cs_b245 hen l).mono (by decide)) (e2_fa ((cs_b261 hen l).mono (by decide)) (e2_fa ((cs_b264 hen l).mono (by decide)) (e2_fa ((cs_b266 hen l).mono (by decide)) (e2_fa ((cs_b442 hen l).mono (by decide)) e2_fz))))))) (e2_fa ein_179 e2_fz) (by decide) co_b443 ex2_196 ck_b443
/-! b444 X10_glyphHere -/
def as_b444 : List ev_V := [(2, 83, 0)]
def E_b444 : e2_E := [(2147483648, 2147583648, 0, 0), (2147483648, 2147483656, 1, 0), (2147483648, 2147485249, 2, 0)]
def bn2402 : e2_Q8 := (bn2384, bn1094)
noncomputable def f_b444 : ev_H := (bn2402 : e2_Q8)
noncomputable def q_b444_0 : ev_H := (bn2402 : e2_Q8)
noncomputable def rs_b444 : e2_Rs := [((0, 4294967295, 0), q_b444_0)]
noncomputable def s_b444 : e2_Sm := (190, as_b444, E_b444, f_b444, rs_b444)
noncomputable def S_b444 : List e2_Sm := [s_b269]
noncomputable def I_b444 : List e2_In := []
set_option maxRecDepth 1000000 in
theorem ck_b444 : e2_run (e2_cal S_b444 I_b444 4000 0) (e2_fin rs_b444) e2x_190 (fun _ => false) (fun _ _ _ _ _ => false) 4000 (e2_seek e2x_190 0) (e2_al 1 as_b444) [] E_b444 f_b444 = true := by decide +kernel
set_option maxRecDepth 1000000 in
theorem co_b444 : e2_okSB E_b444.length as_b444 f_b444 rs_b444 = true := by decide +kernel
theorem cs_b444 (hen : en_ok) (l : Launch) : e2_smOk l 2 s_b444 := e2_con0 (H := 1) (n := 0) (C := evd_190) (S := S_b444) (I := I_b444) (fuel := 4000) [] hen ei_190 (e2_fa (cs_b269 hen l) e2_fz) e2_fz (by decide) co_b444 ex2_190 ck_b444
/-! b445 X10_readGlyph -/
def as_b445 : List ev_V := [(2, 83, 0)]
def E_b445 : e2_E := [(2147483648, 2147583648, 0, 0), (2147483648, 2147483656, 1, 0), (2147483648, 2147485249, 2, 0)]
def bn2403 : e2_Q7 := (bn613, bn1440)
def bn2404 : e2_Q8 := (bn2280, bn2403)
noncomputable def f_b445 : ev_H := (bn2404 : e2_Q8)
def bn2405 : e2_Q7 := (bn613, bn1445)
def bn2406 : e2_Q8 := (bn2394, bn2405)
noncomputable def q_b445_0 : ev_H := (bn2406 : e2_Q8)
noncomputable def rs_b445 : e2_Rs := [((9, 0, 0), q_b445_0)]
noncomputable def s_b445 : e2_Sm := (196, as_b445, E_b445, f_b445, rs_b445)
noncomputable def S_b445 : List e2_Sm := [s_b138, s_b185, s_b234, s_b268, s_b271, s_b273, s_b444]
noncomputable def I_b445 : List e2_In := [(179, 3, e2x_179)]
set_option maxRecDepth 1000000 in
theorem ck_b445 : e2_run (e2_cal S_b445 I_b445 4000 1) (e2_fin rs_b445) e2x_196 (fun _ => false) (fun _ _ _ _ _ => false) 4000 (e2_seek e2x_196 0) (e2_al 2 as_b445) [] E_b445 f_b445 = true := by decide +kernel
set_option maxRecDepth 1000000 in
theorem co_b445 : e2_okSB E_b445.length as_b445 f_b445 rs_b445 = true := by decide +kernel
theorem cs_b445 (hen : en_ok) (l : Launch) (hh : e2_hand_b l) : e2_smOk l 62 s_b445 := e2_con0 (H := 60) (n := 1) (C := evd_196) (S := S_b445) (I := I_b445) (fuel := 4000) [] hen ei_196 (e2_fa (hh _ hm_b138) (e2_fa ((cs_b185 hen l).mono (by decide)) (e2_fa ((cs_b234 hen l).mono (by decide)) (e2_fa ((cs_b268 hen l).mono (by decide)) (e2_fa ((cs_b271 hen l).mono (by decide)) (e2_fa ((cs_b273 hen l).mono (by decide)) (e2_fa ((cs_b444 hen l).mono (by decide)) e2_fz))))))) (e2_fa ein_179 e2_fz) (by decide) co_b445 ex2_196 ck_b445
/-! b446 X10_glyphHere -/
def as_b446 : List ev_V := [(2, 83, 0)]
def E_b446 : e2_E := [(2147483648, 2147583648, 0, 0), (2147483648, 2147483656, 1, 0), (2147483648, 2147485249, 2, 0)]
def bn2407 : e2_Q8 := (bn2384, bn1146)
noncomputable def f_b446 : ev_H := (bn2407 : e2_Q8)
noncomputable def q_b446_0 : ev_H := (bn2407 : e2_Q8)
noncomputable def rs_b446 : e2_Rs := [((0, 4294967295, 0), q_b446_0)]
noncomputable def s_b446 : e2_Sm := (190, as_b446, E_b446, f_b446, rs_b446)
noncomputable def S_b446 : List e2_Sm := [s_b276]
noncomputable def I_b446 : List e2_In := []
set_option maxRecDepth 1000000 in
theorem ck_b446 : e2_run (e2_cal S_b446 I_b446 4000 0) (e2_fin rs_b446) e2x_190 (fun _ => false) (fun _ _ _ _ _ => false) 4000 (e2_seek e2x_190 0) (e2_al 1 as_b446) [] E_b446 f_b446 = true := by decide +kernel
set_option maxRecDepth 1000000 in
theorem co_b446 : e2_okSB E_b446.length as_b446 f_b446 rs_b446 = true := by decide +kernel
theorem cs_b446 (hen : en_ok) (l : Launch) : e2_smOk l 2 s_b446 := e2_con0 (H := 1) (n := 0) (C := evd_190) (S := S_b446) (I := I_b446) (fuel := 4000) [] hen ei_190 (e2_fa (cs_b276 hen l) e2_fz) e2_fz (by decide) co_b446 ex2_190 ck_b446
/-! b447 X10_readGlyph -/
def as_b447 : List ev_V := [(2, 83, 0)]
def E_b447 : e2_E := [(2147483648, 2147583648, 0, 0), (2147483648, 2147483656, 1, 0), (2147483648, 2147485249, 2, 0)]
def bn2408 : e2_Q7 := (bn613, bn1454)
def bn2409 : e2_Q8 := (bn2280, bn2408)
noncomputable def f_b447 : ev_H := (bn2409 : e2_Q8)
def bn2410 : e2_Q7 := (bn613, bn1459)
def bn2411 : e2_Q8 := (bn2394, bn2410)
noncomputable def q_b447_0 : ev_H := (bn2411 : e2_Q8)
noncomputable def rs_b447 : e2_Rs := [((9, 0, 0), q_b447_0)]
noncomputable def s_b447 : e2_Sm := (196, as_b447, E_b447, f_b447, rs_b447)
noncomputable def S_b447 : List e2_Sm := [s_b136, s_b178, s_b232, s_b275, s_b278, s_b280, s_b446]
noncomputable def I_b447 : List e2_In := [(179, 3, e2x_179)]
set_option maxRecDepth 1000000 in
theorem ck_b447 : e2_run (e2_cal S_b447 I_b447 4000 1) (e2_fin rs_b447) e2x_196 (fun _ => false) (fun _ _ _ _ _ => false) 4000 (e2_seek e2x_196 0) (e2_al 2 as_b447) [] E_b447 f_b447 = true := by decide +kernel
set_option maxRecDepth 1000000 in
theorem co_b447 : e2_okSB E_b447.length as_b447 f_b447 rs_b447 = true := by decide +kernel
theorem cs_b447 (hen : en_ok) (l : Launch) (hh : e2_hand_b l) : e2_smOk l 62 s_b447 := e2_con0 (H := 60) (n := 1) (C := evd_196) (S := S_b447) (I := I_b447) (fuel := 4000) [] hen ei_196 (e2_fa (hh _ hm_b136) (e2_fa ((cs_b178 hen l).mono (by decide)) (e2_fa ((cs_b232 hen l).mono (by decide)) (e2_fa ((cs_b275 hen l).mono (by decide)) (e2_fa ((cs_b278 hen l).mono (by decide)) (e2_fa ((cs_b280 hen l).mono (by decide)) (e2_fa ((cs_b446 hen l).mono (by decide)) e2_fz))))))) (e2_fa ein_179 e2_fz) (by decide) co_b447 ex2_196 ck_b447
/-! b448 X10_glyphHere -/
def as_b448 : List ev_V := [(2, 83, 0)]
def E_b448 : e2_E := [(2147483648, 2147583648, 0, 0), (2147483648, 2147483656, 1, 0), (2147483648, 2147485249, 2, 0)]
def bn2412 : e2_Q7 := (bn2383, bn1463)
def bn2413 : e2_Q8 := (bn2412, bn1150)
noncomputable def f_b448 : ev_H := (bn2413 : e2_Q8)
noncomputable def q_b448_0 : ev_H := (bn2413 : e2_Q8)
noncomputable def rs_b448 : e2_Rs := [((11, 2147483647, 2147483655), q_b448_0)]
noncomputable def s_b448 : e2_Sm := (190, as_b448, E_b448, f_b448, rs_b448)
noncomputable def S_b448 : List e2_Sm := [s_b283]
noncomputable def I_b448 : List e2_In := []
set_option maxRecDepth 1000000 in
theorem ck_b448 : e2_run (e2_cal S_b448 I_b448 4000 0) (e2_fin rs_b448) e2x_190 (fun _ => false) (fun _ _ _ _ _ => false) 4000 (e2_seek e2x_190 0) (e2_al 1 as_b448) [] E_b448 f_b448 = true := by decide +kernel
set_option maxRecDepth 1000000 in
theorem co_b448 : e2_okSB E_b448.length as_b448 f_b448 rs_b448 = true := by decide +kernel
theorem cs_b448 (hen : en_ok) (l : Launch) : e2_smOk l 2 s_b448 := e2_con0 (H := 1) (n := 0) (C := evd_190) (S := S_b448) (I := I_b448) (fuel := 4000) [] hen ei_190 (e2_fa (cs_b283 hen l) e2_fz) e2_fz (by decide) co_b448 ex2_190 ck_b448
/-! b449 X10_readGlyph -/
def as_b449 : List ev_V := [(2, 83, 0)]
def E_b449 : e2_E := [(2147483648, 2147583648, 0, 0), (2147483648, 2147483656, 1, 0), (2147483648, 2147485249, 2, 0)]
def bn2414 : e2_Q7 := (bn2303, bn1524)
def bn2415 : e2_Q8 := (bn2280, bn2414)
noncomputable def f_b449 : ev_H := (bn2415 : e2_Q8)
def bn2416 : e2_Q5 := (bn643, bn1488)
def bn2417 : e2_Q6 := (bn2416, bn356)
def bn2418 : e2_Q7 := (bn2417, bn1531)
def bn2419 : e2_Q8 := (bn2394, bn2418)
noncomputable def q_b449_0 : ev_H := (bn2419 : e2_Q8)
def bn2420 : e2_Q7 := (bn2303, bn1536)
def bn2421 : e2_Q8 := (bn2394, bn2420)
noncomputable def q_b449_1 : ev_H := (bn2421 : e2_Q8)
def bn2422 : e2_Q7 := (bn2417, bn1541)
def bn2423 : e2_Q8 := (bn2394, bn2422)
noncomputable def q_b449_2 : ev_H := (bn2423 : e2_Q8)
def bn2424 : e2_Q7 := (bn2417, bn1546)
def bn2425 : e2_Q8 := (bn2394, bn2424)
noncomputable def q_b449_3 : ev_H := (bn2425 : e2_Q8)
def bn2426 : e2_Q7 := (bn2417, bn1551)
def bn2427 : e2_Q8 := (bn2394, bn2426)
noncomputable def q_b449_4 : ev_H := (bn2427 : e2_Q8)
def bn2428 : e2_Q7 := (bn2417, bn1556)
def bn2429 : e2_Q8 := (bn2394, bn2428)
noncomputable def q_b449_5 : ev_H := (bn2429 : e2_Q8)
def bn2430 : e2_Q7 := (bn2417, bn1561)
def bn2431 : e2_Q8 := (bn2394, bn2430)
noncomputable def q_b449_6 : ev_H := (bn2431 : e2_Q8)
def bn2432 : e2_Q7 := (bn2417, bn1566)
def bn2433 : e2_Q8 := (bn2394, bn2432)
noncomputable def q_b449_7 : ev_H := (bn2433 : e2_Q8)
def bn2434 : e2_Q7 := (bn2417, bn1417)
def bn2435 : e2_Q8 := (bn2394, bn2434)
noncomputable def q_b449_8 : ev_H := (bn2435 : e2_Q8)
def bn2436 : e2_Q7 := (bn2417, bn1459)
def bn2437 : e2_Q8 := (bn2394, bn2436)
noncomputable def q_b449_9 : ev_H := (bn2437 : e2_Q8)
def bn2438 : e2_Q7 := (bn2303, bn1575)
def bn2439 : e2_Q8 := (bn2394, bn2438)
noncomputable def q_b449_10 : ev_H := (bn2439 : e2_Q8)
noncomputable def rs_b449 : e2_Rs := [((9, 0, 0), q_b449_0), ((9, 0, 0), q_b449_1), ((9, 0, 0), q_b449_2), ((9, 0, 0), q_b449_3), ((9, 0, 0), q_b449_4), ((9, 0, 0), q_b449_5), ((9, 0, 0), q_b449_6), ((9, 0, 0), q_b449_7), ((9, 0, 0), q_b449_8), ((9, 0, 0), q_b449_9), ((9, 0, 0), q_b449_10)]
noncomputable def s_b449 : e2_Sm := (196, as_b449, E_b449, f_b449, rs_b449)
noncomputable def S_b449 : List e2_Sm := [s_b139, s_b140, s_b141, s_b142, s_b143, s_b144, s_b181, s_b183, s_b184, s_b186, s_b188, s_b190, s_b191, s_b192, s_b232, s_b233, s_b235, s_b236, s_b237, s_b238, s_b239, s_b240, s_b241, s_b242, s_b243, s_b244, s_b257, s_b259, s_b278, s_b280, s_b282, s_b285, s_b286, s_b287, s_b288, s_b289, s_b290, s_b291, s_b292, s_b293, s_b294, s_b295, s_b297, s_b299, s_b301, s_b303, s_b305, s_b307, s_b309, s_b311, s_b313, s_b315, s_b448]
noncomputable def I_b449 : List e2_In := [(179, 3, e2x_179)]
set_option maxRecDepth 1000000 in
theorem ck_b449 : e2_run (e2_cal S_b449 I_b449 4000 1) (e2_fin rs_b449) e2x_196 (fun _ => false) (fun _ _ _ _ _ => false) 4000 (e2_seek e2x_196 0) (e2_al 2 as_b449) [] E_b449 f_b449 = true := by decide +kernel
set_option maxRecDepth 1000000 in
theorem co_b449 : e2_okSB E_b449.length as_b449 f_b449 rs_b449 = true := by decide +kernel
theorem cs_b449 (hen : en_ok) (l : Launch) (hh : e2_hand_b l) : e2_smOk l 62 s_b449 := e2_con0 (H := 60) (n := 1) (C := evd_196) (S := S_b449) (I := I_b449) (fuel := 4000) [] hen ei_196 (e2_fa (hh _ hm_b139) (e2_fa (hh _ hm_b140) (e2_fa (hh _ hm_b141) (e2_fa (hh _ hm_b142) (e2_fa (hh _ hm_b143) (e2_fa (hh _ hm_b144) (e2_fa ((cs_b181 hen l).mono (by decide)) (e2_fa ((cs_b183 hen l).mono (by decide)) (e2_fa ((cs_b184 hen l).mono (by decide)) (e2_fa ((cs_b186 hen l).mono (by decide)) (e2_fa ((cs_b188 hen l).mono (by decide)) (e2_fa ((cs_b190 hen l).mono (by decide)) (e2_fa ((cs_b191 hen l).mono (by decide)) (e2_fa ((cs_b192 hen l).mono (by decide)) (e2_fa ((cs_b232 hen l).mono (by decide)) (e2_fa ((cs_b233 hen l).mono (by decide)) (e2_fa ((cs_b235 hen l).mono (by decide)) (e2_fa ((cs_b236 hen l).mono (by decide)) (e2_fa ((cs_b237 hen l).mono (by decide)) (e2_fa ((cs_b238 hen l).mono (by decide)) (e2_fa ((cs_b239 hen l).mono (by decide)) (e2_fa ((cs_b240 hen l).mono (by decide)) (e2_fa ((cs_b241 hen l).mono (by decide)) (e2_fa ((cs_b242 hen l).mono (by decide)) (e2_fa ((cs_b243 hen l).mono (by decide)) (e2_fa ((cs_b244 hen l).mono (by decide)) (e2_fa ((cs_b257 hen l).mono (by decide)) (e2_fa ((cs_b259 hen l).mono (by decide)) (e2_fa ((cs_b278 hen l).mono (by decide)) (e2_fa ((cs_b280 hen l).mono (by decide)) (e2_fa ((cs_b282 hen l).mono (by decide)) (e2_fa ((cs_b285 hen l).mono (by decide)) (e2_fa ((cs_b286 hen l).mono (by decide)) (e2_fa ((cs_b287 hen l).mono (by decide)) (e2_fa ((cs_b288 hen l).mono (by decide)) (e2_fa ((cs_b289 hen l).mono (by decide)) (e2_fa ((cs_b290 hen l).mono (by decide)) (e2_fa ((cs_b291 hen l).mono (by decide)) (e2_fa ((cs_b292 hen l).mono (by decide)) (e2_fa ((cs_b293 hen l).mono (by decide)) (e2_fa ((cs_b294 hen l).mono (by decide)) (e2_fa ((cs_b295 hen l).mono (by decide)) (e2_fa ((cs_b297 hen l).mono (by decide)) (e2_fa ((cs_b299 hen l).mono (by decide)) (e2_fa ((cs_b301 hen l).mono (by decide)) (e2_fa ((cs_b303 hen l).mono (by decide)) (e2_fa ((cs_b305 hen l).mono (by decide)) (e2_fa ((cs_b307 hen l).mono (by decide)) (e2_fa ((cs_b309 hen l).mono (by decide)) (e2_fa ((cs_b311 hen l).mono (by decide)) (e2_fa ((cs_b313 hen l).mono (by decide)) (e2_fa ((cs_b315 hen l).mono (by decide)) (e2_fa ((cs_b448 hen l).mono (by decide)) e2_fz))))))))))))))))))))))))))))))))))))))))))))))))))))) (e2_fa ein_179 e2_fz) (by decide) co_b449 ex2_196 ck_b449
/-! b450 X10_readNever -/
def as_b450 : List ev_V := [(2, 83, 0)]
def E_b450 : e2_E := [(2147483648, 2147583648, 0, 0), (2147483648, 2147483656, 1, 0), (2147483648, 2147485249, 2, 0)]
noncomputable def f_b450 : ev_H := (bn2385 : e2_Q8)
def bn2440 : e2_Q8 := (bn2384, bn1084)
noncomputable def q_b450_0 : ev_H := (bn2440 : e2_Q8)
noncomputable def rs_b450 : e2_Rs := [((9, 0, 0), q_b450_0)]
noncomputable def s_b450 : e2_Sm := (197, as_b450, E_b450, f_b450, rs_b450)
noncomputable def S_b450 : List e2_Sm := [s_b285, s_b440]
noncomputable def I_b450 : List e2_In := [(174, 1, e2x_174)]
set_option maxRecDepth 1000000 in
theorem ck_b450 : e2_run (e2_cal S_b450 I_b450 4000 1) (e2_fin rs_b450) e2x_197 (fun _ => false) (fun _ _ _ _ _ => false) 4000 (e2_seek e2x_197 0) (e2_al 3 as_b450) [] E_b450 f_b450 = true := by decide +kernel
set_option maxRecDepth 1000000 in
theorem co_b450 : e2_okSB E_b450.length as_b450 f_b450 rs_b450 = true := by decide +kernel
theorem cs_b450 (hen : en_ok) (l : Launch) : e2_smOk l 5 s_b450 := e2_con0 (H := 3) (n := 1) (C := evd_197) (S := S_b450) (I := I_b450) (fuel := 4000) [] hen ei_197 (e2_fa (cs_b285 hen l) (e2_fa ((cs_b440 hen l).mono (by decide)) e2_fz)) (e2_fa ein_174 e2_fz) (by decide) co_b450 ex2_197 ck_b450
/-! b451 X10_readNever -/
def as_b451 : List ev_V := [(2, 83, 0)]
def E_b451 : e2_E := [(2147483648, 2147583648, 0, 0), (2147483648, 2147483656, 1, 0), (2147483648, 2147485249, 2, 0)]
noncomputable def f_b451 : ev_H := (bn2397 : e2_Q8)
def bn2441 : e2_Q8 := (bn2384, bn1090)
noncomputable def q_b451_0 : ev_H := (bn2441 : e2_Q8)
noncomputable def rs_b451 : e2_Rs := [((9, 0, 0), q_b451_0)]
noncomputable def s_b451 : e2_Sm := (197, as_b451, E_b451, f_b451, rs_b451)
noncomputable def S_b451 : List e2_Sm := [s_b318, s_b442]
noncomputable def I_b451 : List e2_In := [(174, 1, e2x_174)]
set_option maxRecDepth 1000000 in
theorem ck_b451 : e2_run (e2_cal S_b451 I_b451 4000 1) (e2_fin rs_b451) e2x_197 (fun _ => false) (fun _ _ _ _ _ => false) 4000 (e2_seek e2x_197 0) (e2_al 3 as_b451) [] E_b451 f_b451 = true := by decide +kernel
set_option maxRecDepth 1000000 in
theorem co_b451 : e2_okSB E_b451.length as_b451 f_b451 rs_b451 = true := by decide +kernel
theorem cs_b451 (hen : en_ok) (l : Launch) : e2_smOk l 5 s_b451 := e2_con0 (H := 3) (n := 1) (C := evd_197) (S := S_b451) (I := I_b451) (fuel := 4000) [] hen ei_197 (e2_fa (cs_b318 hen l) (e2_fa ((cs_b442 hen l).mono (by decide)) e2_fz)) (e2_fa ein_174 e2_fz) (by decide) co_b451 ex2_197 ck_b451
/-! b452 X10_readNever -/
def as_b452 : List ev_V := [(2, 83, 0)]
def E_b452 : e2_E := [(2147483648, 2147583648, 0, 0), (2147483648, 2147483656, 1, 0), (2147483648, 2147485249, 2, 0)]
noncomputable def f_b452 : ev_H := (bn2402 : e2_Q8)
def bn2442 : e2_Q8 := (bn2384, bn1096)
noncomputable def q_b452_0 : ev_H := (bn2442 : e2_Q8)
noncomputable def rs_b452 : e2_Rs := [((9, 0, 0), q_b452_0)]
noncomputable def s_b452 : e2_Sm := (197, as_b452, E_b452, f_b452, rs_b452)
noncomputable def S_b452 : List e2_Sm := [s_b320, s_b444]
noncomputable def I_b452 : List e2_In := [(174, 1, e2x_174)]
set_option maxRecDepth 1000000 in
theorem ck_b452 : e2_run (e2_cal S_b452 I_b452 4000 1) (e2_fin rs_b452) e2x_197 (fun _ => false) (fun _ _ _ _ _ => false) 4000 (e2_seek e2x_197 0) (e2_al 3 as_b452) [] E_b452 f_b452 = true := by decide +kernel
set_option maxRecDepth 1000000 in
theorem co_b452 : e2_okSB E_b452.length as_b452 f_b452 rs_b452 = true := by decide +kernel
theorem cs_b452 (hen : en_ok) (l : Launch) : e2_smOk l 5 s_b452 := e2_con0 (H := 3) (n := 1) (C := evd_197) (S := S_b452) (I := I_b452) (fuel := 4000) [] hen ei_197 (e2_fa (cs_b320 hen l) (e2_fa ((cs_b444 hen l).mono (by decide)) e2_fz)) (e2_fa ein_174 e2_fz) (by decide) co_b452 ex2_197 ck_b452
/-! b453 X10_readNever -/
def as_b453 : List ev_V := [(2, 83, 0)]
def E_b453 : e2_E := [(2147483648, 2147583648, 0, 0), (2147483648, 2147483656, 1, 0), (2147483648, 2147485249, 2, 0)]
noncomputable def f_b453 : ev_H := (bn2407 : e2_Q8)
def bn2443 : e2_Q8 := (bn2384, bn1082)
noncomputable def q_b453_0 : ev_H := (bn2443 : e2_Q8)
noncomputable def rs_b453 : e2_Rs := [((9, 0, 0), q_b453_0)]
noncomputable def s_b453 : e2_Sm := (197, as_b453, E_b453, f_b453, rs_b453)
noncomputable def S_b453 : List e2_Sm := [s_b288, s_b446]
noncomputable def I_b453 : List e2_In := [(174, 1, e2x_174)]
set_option maxRecDepth 1000000 in
theorem ck_b453 : e2_run (e2_cal S_b453 I_b453 4000 1) (e2_fin rs_b453) e2x_197 (fun _ => false) (fun _ _ _ _ _ => false) 4000 (e2_seek e2x_197 0) (e2_al 3 as_b453) [] E_b453 f_b453 = true := by decide +kernel
set_option maxRecDepth 1000000 in
theorem co_b453 : e2_okSB E_b453.length as_b453 f_b453 rs_b453 = true := by decide +kernel
theorem cs_b453 (hen : en_ok) (l : Launch) : e2_smOk l 5 s_b453 := e2_con0 (H := 3) (n := 1) (C := evd_197) (S := S_b453) (I := I_b453) (fuel := 4000) [] hen ei_197 (e2_fa (cs_b288 hen l) (e2_fa ((cs_b446 hen l).mono (by decide)) e2_fz)) (e2_fa ein_174 e2_fz) (by decide) co_b453 ex2_197 ck_b453
/-! b454 X10_glyphHere -/
def as_b454 : List ev_V := [(2, 83, 0)]
def E_b454 : e2_E := [(2147483648, 2147583648, 0, 0), (2147483648, 2147483656, 1, 0), (2147483648, 2147485249, 2, 0)]
def bn2444 : e2_Q8 := (bn2384, bn1152)
noncomputable def f_b454 : ev_H := (bn2444 : e2_Q8)
noncomputable def q_b454_0 : ev_H := (bn2444 : e2_Q8)
noncomputable def rs_b454 : e2_Rs := [((0, 4294967295, 0), q_b454_0)]
noncomputable def s_b454 : e2_Sm := (190, as_b454, E_b454, f_b454, rs_b454)
noncomputable def S_b454 : List e2_Sm := [s_b323]
noncomputable def I_b454 : List e2_In := []
set_option maxRecDepth 1000000 in
theorem ck_b454 : e2_run (e2_cal S_b454 I_b454 4000 0) (e2_fin rs_b454) e2x_190 (fun _ => false) (fun _ _ _ _ _ => false) 4000 (e2_seek e2x_190 0) (e2_al 1 as_b454) [] E_b454 f_b454 = true := by decide +kernel
set_option maxRecDepth 1000000 in
theorem co_b454 : e2_okSB E_b454.length as_b454 f_b454 rs_b454 = true := by decide +kernel
theorem cs_b454 (hen : en_ok) (l : Launch) : e2_smOk l 2 s_b454 := e2_con0 (H := 1) (n := 0) (C := evd_190) (S := S_b454) (I := I_b454) (fuel := 4000) [] hen ei_190 (e2_fa (cs_b323 hen l) e2_fz) e2_fz (by decide) co_b454 ex2_190 ck_b454
/-! b455 X10_glyphHere -/
def as_b455 : List ev_V := [(2, 83, 0)]
def E_b455 : e2_E := [(2147483648, 2147583648, 0, 0), (2147483648, 2147483656, 1, 0), (2147483648, 2147485249, 2, 0)]
def bn2445 : e2_Q8 := (bn2384, bn1198)
noncomputable def f_b455 : ev_H := (bn2445 : e2_Q8)
noncomputable def q_b455_0 : ev_H := (bn2445 : e2_Q8)
noncomputable def rs_b455 : e2_Rs := [((0, 4294967295, 0), q_b455_0)]
noncomputable def s_b455 : e2_Sm := (190, as_b455, E_b455, f_b455, rs_b455)
noncomputable def S_b455 : List e2_Sm := [s_b325]
noncomputable def I_b455 : List e2_In := []
set_option maxRecDepth 1000000 in
theorem ck_b455 : e2_run (e2_cal S_b455 I_b455 4000 0) (e2_fin rs_b455) e2x_190 (fun _ => false) (fun _ _ _ _ _ => false) 4000 (e2_seek e2x_190 0) (e2_al 1 as_b455) [] E_b455 f_b455 = true := by decide +kernel
set_option maxRecDepth 1000000 in
theorem co_b455 : e2_okSB E_b455.length as_b455 f_b455 rs_b455 = true := by decide +kernel
theorem cs_b455 (hen : en_ok) (l : Launch) : e2_smOk l 2 s_b455 := e2_con0 (H := 1) (n := 0) (C := evd_190) (S := S_b455) (I := I_b455) (fuel := 4000) [] hen ei_190 (e2_fa (cs_b325 hen l) e2_fz) e2_fz (by decide) co_b455 ex2_190 ck_b455
/-! b456 X10_readNever -/
def as_b456 : List ev_V := [(2, 83, 0)]
def E_b456 : e2_E := [(2147483648, 2147583648, 0, 0), (2147483648, 2147483656, 1, 0), (2147483648, 2147485249, 2, 0)]
def bn2446 : e2_Q6 := (bn2382, bn1584)
def bn2447 : e2_Q7 := (bn2446, bn1463)
def bn2448 : e2_Q8 := (bn2447, bn1588)
noncomputable def f_b456 : ev_H := (bn2448 : e2_Q8)
def bn2449 : e2_Q8 := (bn2447, bn1590)
noncomputable def q_b456_0 : ev_H := (bn2449 : e2_Q8)
def bn2450 : e2_Q8 := (bn2447, bn1592)
noncomputable def q_b456_1 : ev_H := (bn2450 : e2_Q8)
def bn2451 : e2_Q8 := (bn2447, bn1594)
noncomputable def q_b456_2 : ev_H := (bn2451 : e2_Q8)
def bn2452 : e2_Q8 := (bn2447, bn1596)
noncomputable def q_b456_3 : ev_H := (bn2452 : e2_Q8)
def bn2453 : e2_Q8 := (bn2447, bn1598)
noncomputable def q_b456_4 : ev_H := (bn2453 : e2_Q8)
def bn2454 : e2_Q8 := (bn2447, bn1600)
noncomputable def q_b456_5 : ev_H := (bn2454 : e2_Q8)
def bn2455 : e2_Q8 := (bn2447, bn1602)
noncomputable def q_b456_6 : ev_H := (bn2455 : e2_Q8)
def bn2456 : e2_Q8 := (bn2447, bn1604)
noncomputable def q_b456_7 : ev_H := (bn2456 : e2_Q8)
def bn2457 : e2_Q8 := (bn2447, bn1606)
noncomputable def q_b456_8 : ev_H := (bn2457 : e2_Q8)
def bn2458 : e2_Q8 := (bn2447, bn1608)
noncomputable def q_b456_9 : ev_H := (bn2458 : e2_Q8)
noncomputable def rs_b456 : e2_Rs := [((9, 0, 0), q_b456_0), ((9, 0, 0), q_b456_1), ((9, 0, 0), q_b456_2), ((9, 0, 0), q_b456_3), ((9, 0, 0), q_b456_4), ((9, 0, 0), q_b456_5), ((9, 0, 0), q_b456_6), ((9, 0, 0), q_b456_7), ((9, 0, 0), q_b456_8), ((9, 0, 0), q_b456_9)]
noncomputable def s_b456 : e2_Sm := (197, as_b456, E_b456, f_b456, rs_b456)
noncomputable def S_b456 : List e2_Sm := [s_b285, s_b286, s_b287, s_b288, s_b327, s_b328, s_b329, s_b330, s_b440, s_b446, s_b448, s_b454, s_b455]
noncomputable def I_b456 : List e2_In := [(173, 3, e2x_173), (174, 1, e2x_174)]
set_option maxRecDepth 1000000 in
theorem ck_b456 : e2_run (e2_cal S_b456 I_b456 4000 1) (e2_fin rs_b456) e2x_197 (fun _ => false) (fun _ _ _ _ _ => false) 4000 (e2_seek e2x_197 0) (e2_al 3 as_b456) [] E_b456 f_b456 = true := by decide +kernel
set_option maxRecDepth 1000000 in
theorem co_b456 : e2_okSB E_b456.length as_b456 f_b456 rs_b456 = true := by decide +kernel
theorem cs_b456 (hen : en_ok) (l : Launch) : e2_smOk l 8 s_b456 := e2_con0 (H := 6) (n := 1) (C := evd_197) (S := S_b456) (I := I_b456) (fuel := 4000) [] hen ei_197 (e2_fa ((cs_b285 hen l).mono (by decide)) (e2_fa ((cs_b286 hen l).mono (by decide)) (e2_fa ((cs_b287 hen l).mono (by decide)) (e2_fa ((cs_b288 hen l).mono (by decide)) (e2_fa ((cs_b327 hen l).mono (by decide)) (e2_fa (cs_b328 hen l) (e2_fa (cs_b329 hen l) (e2_fa ((cs_b330 hen l).mono (by decide)) (e2_fa ((cs_b440 hen l).mono (by decide)) (e2_fa ((cs_b446 hen l).mono (by decide)) (e2_fa ((cs_b448 hen l).mono (by decide)) (e2_fa ((cs_b454 hen l).mono (by decide)) (e2_fa ((cs_b455 hen l).mono (by decide)) e2_fz))))))))))))) (e2_fa ein_173 (e2_fa ein_174 e2_fz)) (by decide) co_b456 ex2_197 ck_b456
/-! b457 X10_readLine -/
def as_b457 : List ev_V := [(2, 83, 0)]
def E_b457 : e2_E := [(2147483648, 2147583648, 0, 0), (2147483648, 2147483656, 1, 0), (2147483648, 2147485249, 2, 0)]
def bn2459 : e2_Q7 := (bn2368, bn1735)
def bn2460 : e2_Q8 := (bn2362, bn2459)
noncomputable def f_b457 : ev_H := (bn2460 : e2_Q8)
def bn2461 : e2_Q7 := (bn2368, bn1743)
def bn2462 : e2_Q8 := (bn2362, bn2461)
noncomputable def q_b457_0 : ev_H := (bn2462 : e2_Q8)
def bn2463 : e2_Q7 := (bn2368, bn1748)
def bn2464 : e2_Q8 := (bn2362, bn2463)
noncomputable def q_b457_1 : ev_H := (bn2464 : e2_Q8)
def bn2465 : e2_Q7 := (bn2368, bn1752)
def bn2466 : e2_Q8 := (bn2362, bn2465)
noncomputable def q_b457_2 : ev_H := (bn2466 : e2_Q8)
def bn2467 : e2_Q7 := (bn2368, bn1756)
def bn2468 : e2_Q8 := (bn2362, bn2467)
noncomputable def q_b457_3 : ev_H := (bn2468 : e2_Q8)
noncomputable def q_b457_4 : ev_H := (bn2370 : e2_Q8)
noncomputable def q_b457_5 : ev_H := (bn2372 : e2_Q8)
noncomputable def q_b457_6 : ev_H := (bn2374 : e2_Q8)
noncomputable def q_b457_7 : ev_H := (bn2376 : e2_Q8)
noncomputable def q_b457_8 : ev_H := (bn2378 : e2_Q8)
def bn2469 : e2_Q7 := (bn2368, bn1780)
def bn2470 : e2_Q8 := (bn2362, bn2469)
noncomputable def q_b457_9 : ev_H := (bn2470 : e2_Q8)
def bn2471 : e2_Q7 := (bn2368, bn1784)
def bn2472 : e2_Q8 := (bn2362, bn2471)
noncomputable def q_b457_10 : ev_H := (bn2472 : e2_Q8)
def bn2473 : e2_Q4 := (bn747, bn2390)
def bn2474 : e2_Q5 := (bn329, bn2473)
def bn2475 : e2_Q6 := (bn2474, bn1717)
def bn2476 : e2_Q7 := (bn2475, bn1724)
def bn2477 : e2_Q8 := (bn2476, bn2463)
noncomputable def q_b457_11 : ev_H := (bn2477 : e2_Q8)
def bn2478 : e2_Q8 := (bn2476, bn2465)
noncomputable def q_b457_12 : ev_H := (bn2478 : e2_Q8)
def bn2479 : e2_Q8 := (bn2476, bn2469)
noncomputable def q_b457_13 : ev_H := (bn2479 : e2_Q8)
def bn2480 : e2_Q8 := (bn2476, bn2471)
noncomputable def q_b457_14 : ev_H := (bn2480 : e2_Q8)
def bn2481 : e2_Q5 := (bn643, bn1726)
def bn2482 : e2_Q6 := (bn2481, bn1729)
def bn2483 : e2_Q7 := (bn2482, bn1760)
def bn2484 : e2_Q8 := (bn2476, bn2483)
noncomputable def q_b457_15 : ev_H := (bn2484 : e2_Q8)
def bn2485 : e2_Q7 := (bn2482, bn1764)
def bn2486 : e2_Q8 := (bn2476, bn2485)
noncomputable def q_b457_16 : ev_H := (bn2486 : e2_Q8)
def bn2487 : e2_Q7 := (bn2482, bn1768)
def bn2488 : e2_Q8 := (bn2476, bn2487)
noncomputable def q_b457_17 : ev_H := (bn2488 : e2_Q8)
def bn2489 : e2_Q7 := (bn2482, bn1772)
def bn2490 : e2_Q8 := (bn2476, bn2489)
noncomputable def q_b457_18 : ev_H := (bn2490 : e2_Q8)
def bn2491 : e2_Q7 := (bn2482, bn1776)
def bn2492 : e2_Q8 := (bn2476, bn2491)
noncomputable def q_b457_19 : ev_H := (bn2492 : e2_Q8)
def bn2493 : e2_Q7 := (bn2368, bn1808)
def bn2494 : e2_Q8 := (bn2476, bn2493)
noncomputable def q_b457_20 : ev_H := (bn2494 : e2_Q8)
def bn2495 : e2_Q8 := (bn2476, bn2467)
noncomputable def q_b457_21 : ev_H := (bn2495 : e2_Q8)
noncomputable def rs_b457 : e2_Rs := [((9, 0, 0), q_b457_0), ((9, 0, 0), q_b457_1), ((9, 0, 0), q_b457_2), ((9, 0, 0), q_b457_3), ((9, 0, 0), q_b457_4), ((9, 0, 0), q_b457_5), ((9, 0, 0), q_b457_6), ((9, 0, 0), q_b457_7), ((9, 0, 0), q_b457_8), ((9, 0, 0), q_b457_9), ((9, 0, 0), q_b457_10), ((9, 0, 0), q_b457_11), ((9, 0, 0), q_b457_12), ((9, 0, 0), q_b457_13), ((9, 0, 0), q_b457_14), ((9, 0, 0), q_b457_15), ((9, 0, 0), q_b457_16), ((9, 0, 0), q_b457_17), ((9, 0, 0), q_b457_18), ((9, 0, 0), q_b457_19), ((9, 0, 0), q_b457_20), ((9, 0, 0), q_b457_21)]
noncomputable def s_b457 : e2_Sm := (187, as_b457, E_b457, f_b457, rs_b457)
noncomputable def S_b457 : List e2_Sm := [s_b173, s_b178, s_b179, s_b180, s_b181, s_b182, s_b183, s_b184, s_b185, s_b186, s_b187, s_b188, s_b189, s_b190, s_b191, s_b192, s_b193, s_b194, s_b195, s_b196, s_b197, s_b198, s_b199, s_b217, s_b218, s_b219, s_b220, s_b221, s_b249, s_b250, s_b251, s_b252, s_b253, s_b332, s_b333, s_b334, s_b335, s_b336, s_b338, s_b341, s_b344, s_b346, s_b348, s_b441, s_b443, s_b445, s_b447, s_b449, s_b450, s_b451, s_b452, s_b453, s_b456]
noncomputable def I_b457 : List e2_In := [(170, 2, e2x_170), (173, 3, e2x_173), (174, 1, e2x_174), (178, 2, e2x_178), (179, 3, e2x_179), (180, 1, e2x_180), (186, 1, e2x_186)]
set_option maxRecDepth 1000000 in
theorem ck_b457 : e2_run (e2_cal S_b457 I_b457 4000 2) (e2_fin rs_b457) e2x_187 (fun _ => false) (fun _ _ _ _ _ => false) 4000 (e2_seek e2x_187 0) (e2_al 3 as_b457) [] E_b457 f_b457 = true := by decide +kernel
set_option maxRecDepth 1000000 in
theorem co_b457 : e2_okSB E_b457.length as_b457 f_b457 rs_b457 = true := by decide +kernel
theorem cs_b457 (hen : en_ok) (l : Launch) (hh : e2_hand_b l) : e2_smOk l 65 s_b457 := e2_con0 (H := 62) (n := 2) (C := evd_187) (S := S_b457) (I := I_b457) (fuel := 4000) [] hen ei_187 (e2_fa ((cs_b173 hen l).mono (by decide)) (e2_fa ((cs_b178 hen l).mono (by decide)) (e2_fa ((cs_b179 hen l).mono (by decide)) (e2_fa ((cs_b180 hen l).mono (by decide)) (e2_fa ((cs_b181 hen l).mono (by decide)) (e2_fa ((cs_b182 hen l).mono (by decide)) (e2_fa ((cs_b183 hen l).mono (by decide)) (e2_fa ((cs_b184 hen l).mono (by decide)) (e2_fa ((cs_b185 hen l).mono (by decide)) (e2_fa ((cs_b186 hen l).mono (by decide)) (e2_fa ((cs_b187 hen l).mono (by decide)) (e2_fa ((cs_b188 hen l).mono (by decide)) (e2_fa ((cs_b189 hen l).mono (by decide)) (e2_fa ((cs_b190 hen l).mono (by decide)) (e2_fa ((cs_b191 hen l).mono (by decide)) (e2_fa ((cs_b192 hen l).mono (by decide)) (e2_fa ((cs_b193 hen l).mono (by decide)) (e2_fa ((cs_b194 hen l).mono (by decide)) (e2_fa ((cs_b195 hen l).mono (by decide)) (e2_fa ((cs_b196 hen l).mono (by decide)) (e2_fa ((cs_b197 hen l).mono (by decide)) (e2_fa ((cs_b198 hen l).mono (by decide)) (e2_fa ((cs_b199 hen l).mono (by decide)) (e2_fa ((cs_b217 hen l).mono (by decide)) (e2_fa ((cs_b218 hen l).mono (by decide)) (e2_fa ((cs_b219 hen l).mono (by decide)) (e2_fa ((cs_b220 hen l).mono (by decide)) (e2_fa ((cs_b221 hen l).mono (by decide)) (e2_fa ((cs_b249 hen l).mono (by decide)) (e2_fa ((cs_b250 hen l).mono (by decide)) (e2_fa ((cs_b251 hen l).mono (by decide)) (e2_fa ((cs_b252 hen l).mono (by decide)) (e2_fa ((cs_b253 hen l).mono (by decide)) (e2_fa ((cs_b332 hen l hh).mono (by decide)) (e2_fa ((cs_b333 hen l hh).mono (by decide)) (e2_fa ((cs_b334 hen l hh).mono (by decide)) (e2_fa ((cs_b335 hen l hh).mono (by decide)) (e2_fa ((cs_b336 hen l hh).mono (by decide)) (e2_fa ((cs_b338 hen l).mono (by decide)) (e2_fa ((cs_b341 hen l).mono (by decide)) (e2_fa ((cs_b344 hen l).mono (by decide)) (e2_fa ((cs_b346 hen l).mono (by decide)) (e2_fa ((cs_b348 hen l).mono (by decide)) (e2_fa (cs_b441 hen l hh) (e2_fa (cs_b443 hen l hh) (e2_fa (cs_b445 hen l hh) (e2_fa (cs_b447 hen l hh) (e2_fa (cs_b449 hen l hh) (e2_fa ((cs_b450 hen l).mono (by decide)) (e2_fa ((cs_b451 hen l).mono (by decide)) (e2_fa ((cs_b452 hen l).mono (by decide)) (e2_fa ((cs_b453 hen l).mono (by decide)) (e2_fa ((cs_b456 hen l).mono (by decide)) e2_fz))))))))))))))))))))))))))))))))))))))))))))))))))))) (e2_fa ein_170 (e2_fa ein_173 (e2_fa ein_174 (e2_fa ein_178 (e2_fa ein_179 (e2_fa ein_180 (e2_fa ein_186 e2_fz))))))) (by decide) co_b457 ex2_187 ck_b457
/-! b458 X10_glyphHere -/
def as_b458 : List ev_V := [(2, 83, 0)]
def E_b458 : e2_E := [(2147483648, 2147583648, 0, 0), (2147483648, 2147483656, 1, 0), (2147483648, 2147485249, 2, 0)]
def bn2496 : e2_Q5 := (bn14, bn2391)
def bn2497 : e2_Q6 := (bn2496, bn338)
def bn2498 : e2_Q7 := (bn2497, bn345)
def bn2499 : e2_Q8 := (bn2498, bn1098)
noncomputable def f_b458 : ev_H := (bn2499 : e2_Q8)
noncomputable def q_b458_0 : ev_H := (bn2499 : e2_Q8)
noncomputable def rs_b458 : e2_Rs := [((0, 4294967295, 0), q_b458_0)]
noncomputable def s_b458 : e2_Sm := (190, as_b458, E_b458, f_b458, rs_b458)
noncomputable def S_b458 : List e2_Sm := [s_b255]
noncomputable def I_b458 : List e2_In := []
set_option maxRecDepth 1000000 in
theorem ck_b458 : e2_run (e2_cal S_b458 I_b458 4000 0) (e2_fin rs_b458) e2x_190 (fun _ => false) (fun _ _ _ _ _ => false) 4000 (e2_seek e2x_190 0) (e2_al 1 as_b458) [] E_b458 f_b458 = true := by decide +kernel
set_option maxRecDepth 1000000 in
theorem co_b458 : e2_okSB E_b458.length as_b458 f_b458 rs_b458 = true := by decide +kernel
theorem cs_b458 (hen : en_ok) (l : Launch) : e2_smOk l 2 s_b458 := e2_con0 (H := 1) (n := 0) (C := evd_190) (S := S_b458) (I := I_b458) (fuel := 4000) [] hen ei_190 (e2_fa (cs_b255 hen l) e2_fz) e2_fz (by decide) co_b458 ex2_190 ck_b458
/-! b459 X10_readGlyph -/
def as_b459 : List ev_V := [(2, 83, 0)]
def E_b459 : e2_E := [(2147483648, 2147583648, 0, 0), (2147483648, 2147483656, 1, 0), (2147483648, 2147485249, 2, 0)]
def bn2500 : e2_Q7 := (bn645, bn1405)
def bn2501 : e2_Q8 := (bn2394, bn2500)
noncomputable def f_b459 : ev_H := (bn2501 : e2_Q8)
def bc248 : ev_C := (50, [(1, 1, 4294967296), (0, 8, 0)])
def bn2502 : e2_Q1 := (bc248, bc3)
def bn2503 : e2_Q2 := (bn22, bn2502)
def bn2504 : e2_Q3 := (bn2503, bn27)
def bn2505 : e2_Q4 := (bn21, bn2504)
def bn2506 : e2_Q5 := (bn329, bn2505)
def bn2507 : e2_Q6 := (bn2506, bn338)
def bn2508 : e2_Q7 := (bn2507, bn1399)
def bn2509 : e2_Q7 := (bn645, bn1417)
def bn2510 : e2_Q8 := (bn2508, bn2509)
noncomputable def q_b459_0 : ev_H := (bn2510 : e2_Q8)
noncomputable def rs_b459 : e2_Rs := [((9, 0, 0), q_b459_0)]
noncomputable def s_b459 : e2_Sm := (196, as_b459, E_b459, f_b459, rs_b459)
noncomputable def S_b459 : List e2_Sm := [s_b157, s_b179, s_b233, s_b254, s_b257, s_b259, s_b458]
noncomputable def I_b459 : List e2_In := [(179, 3, e2x_179)]
set_option maxRecDepth 1000000 in
theorem ck_b459 : e2_run (e2_cal S_b459 I_b459 4000 1) (e2_fin rs_b459) e2x_196 (fun _ => false) (fun _ _ _ _ _ => false) 4000 (e2_seek e2x_196 0) (e2_al 2 as_b459) [] E_b459 f_b459 = true := by decide +kernel
set_option maxRecDepth 1000000 in
theorem co_b459 : e2_okSB E_b459.length as_b459 f_b459 rs_b459 = true := by decide +kernel
theorem cs_b459 (hen : en_ok) (l : Launch) (hh : e2_hand_b l) : e2_smOk l 62 s_b459 := e2_con0 (H := 60) (n := 1) (C := evd_196) (S := S_b459) (I := I_b459) (fuel := 4000) [] hen ei_196 (e2_fa (hh _ hm_b157) (e2_fa ((cs_b179 hen l).mono (by decide)) (e2_fa ((cs_b233 hen l).mono (by decide)) (e2_fa ((cs_b254 hen l).mono (by decide)) (e2_fa ((cs_b257 hen l).mono (by decide)) (e2_fa ((cs_b259 hen l).mono (by decide)) (e2_fa ((cs_b458 hen l).mono (by decide)) e2_fz))))))) (e2_fa ein_179 e2_fz) (by decide) co_b459 ex2_196 ck_b459
/-! b460 X10_glyphHere -/
def as_b460 : List ev_V := [(2, 83, 0)]
def E_b460 : e2_E := [(2147483648, 2147583648, 0, 0), (2147483648, 2147483656, 1, 0), (2147483648, 2147485249, 2, 0)]
def bn2511 : e2_Q8 := (bn2498, bn1088)
noncomputable def f_b460 : ev_H := (bn2511 : e2_Q8)
noncomputable def q_b460_0 : ev_H := (bn2511 : e2_Q8)
noncomputable def rs_b460 : e2_Rs := [((0, 4294967295, 0), q_b460_0)]
noncomputable def s_b460 : e2_Sm := (190, as_b460, E_b460, f_b460, rs_b460)
noncomputable def S_b460 : List e2_Sm := [s_b262]
noncomputable def I_b460 : List e2_In := []
set_option maxRecDepth 1000000 in
theorem ck_b460 : e2_run (e2_cal S_b460 I_b460 4000 0) (e2_fin rs_b460) e2x_190 (fun _ => false) (fun _ _ _ _ _ => false) 4000 (e2_seek e2x_190 0) (e2_al 1 as_b460) [] E_b460 f_b460 = true := by decide +kernel
set_option maxRecDepth 1000000 in
theorem co_b460 : e2_okSB E_b460.length as_b460 f_b460 rs_b460 = true := by decide +kernel
theorem cs_b460 (hen : en_ok) (l : Launch) : e2_smOk l 2 s_b460 := e2_con0 (H := 1) (n := 0) (C := evd_190) (S := S_b460) (I := I_b460) (fuel := 4000) [] hen ei_190 (e2_fa (cs_b262 hen l) e2_fz) e2_fz (by decide) co_b460 ex2_190 ck_b460
/-! b461 X10_readGlyph -/
def as_b461 : List ev_V := [(2, 83, 0)]
def E_b461 : e2_E := [(2147483648, 2147583648, 0, 0), (2147483648, 2147483656, 1, 0), (2147483648, 2147485249, 2, 0)]
def bn2512 : e2_Q7 := (bn645, bn1426)
def bn2513 : e2_Q8 := (bn2394, bn2512)
noncomputable def f_b461 : ev_H := (bn2513 : e2_Q8)
def bn2514 : e2_Q7 := (bn645, bn1431)
def bn2515 : e2_Q8 := (bn2508, bn2514)
noncomputable def q_b461_0 : ev_H := (bn2515 : e2_Q8)
noncomputable def rs_b461 : e2_Rs := [((9, 0, 0), q_b461_0)]
noncomputable def s_b461 : e2_Sm := (196, as_b461, E_b461, f_b461, rs_b461)
noncomputable def S_b461 : List e2_Sm := [s_b165, s_b187, s_b245, s_b261, s_b264, s_b266, s_b460]
noncomputable def I_b461 : List e2_In := [(179, 3, e2x_179)]
set_option maxRecDepth 1000000 in
theorem ck_b461 : e2_run (e2_cal S_b461 I_b461 4000 1) (e2_fin rs_b461) e2x_196 (fun _ => false) (fun _ _ _ _ _ => false) 4000 (e2_seek e2x_196 0) (e2_al 2 as_b461) [] E_b461 f_b461 = true := by decide +kernel
set_option maxRecDepth 1000000 in
theorem co_b461 : e2_okSB E_b461.length as_b461 f_b461 rs_b461 = true := by decide +kernel
theorem cs_b461 (hen : en_ok) (l : Launch) (hh : e2_hand_b l) : e2_smOk l 62 s_b461 := e2_con0 (H := 60) (n := 1) (C := evd_196) (S := S_b461) (I := I_b461) (fuel := 4000) [] hen ei_196 (e2_fa (hh _ hm_b165) (e2_fa ((cs_b187 hen l).mono (by decide)) (e2_fa ((cs_b245 hen l).mono (by decide)) (e2_fa ((cs_b261 hen l).mono (by decide)) (e2_fa ((cs_b264 hen l).mono (by decide)) (e2_fa ((cs_b266 hen l).mono (by decide)) (e2_fa ((cs_b460 hen l).mono (by decide)) e2_fz))))))) (e2_fa ein_179 e2_fz) (by decide) co_b461 ex2_196 ck_b461
/-! b462 X10_glyphHere -/
def as_b462 : List ev_V := [(2, 83, 0)]
def E_b462 : e2_E := [(2147483648, 2147583648, 0, 0), (2147483648, 2147483656, 1, 0), (2147483648, 2147485249, 2, 0)]
def bn2516 : e2_Q8 := (bn2498, bn1094)
noncomputable def f_b462 : ev_H := (bn2516 : e2_Q8)
noncomputable def q_b462_0 : ev_H := (bn2516 : e2_Q8)
noncomputable def rs_b462 : e2_Rs := [((0, 4294967295, 0), q_b462_0)]
noncomputable def s_b462 : e2_Sm := (190, as_b462, E_b462, f_b462, rs_b462)
noncomputable def S_b462 : List e2_Sm := [s_b269]
noncomputable def I_b462 : List e2_In := []
set_option maxRecDepth 1000000 in
theorem ck_b462 : e2_run (e2_cal S_b462 I_b462 4000 0) (e2_fin rs_b462) e2x_190 (fun _ => false) (fun _ _ _ _ _ => false) 4000 (e2_seek e2x_190 0) (e2_al 1 as_b462) [] E_b462 f_b462 = true := by decide +kernel
set_option maxRecDepth 1000000 in
theorem co_b462 : e2_okSB E_b462.length as_b462 f_b462 rs_b462 = true := by decide +kernel
theorem cs_b462 (hen : en_ok) (l : Launch) : e2_smOk l 2 s_b462 := e2_con0 (H := 1) (n := 0) (C := evd_190) (S := S_b462) (I := I_b462) (fuel := 4000) [] hen ei_190 (e2_fa (cs_b269 hen l) e2_fz) e2_fz (by decide) co_b462 ex2_190 ck_b462
/-! b463 X10_readGlyph -/
def as_b463 : List ev_V := [(2, 83, 0)]
def E_b463 : e2_E := [(2147483648, 2147583648, 0, 0), (2147483648, 2147483656, 1, 0), (2147483648, 2147485249, 2, 0)]
def bn2517 : e2_Q7 := (bn645, bn1440)
def bn2518 : e2_Q8 := (bn2394, bn2517)
noncomputable def f_b463 : ev_H := (bn2518 : e2_Q8)
def bn2519 : e2_Q7 := (bn645, bn1445)
def bn2520 : e2_Q8 := (bn2508, bn2519)
noncomputable def q_b463_0 : ev_H := (bn2520 : e2_Q8)
noncomputable def rs_b463 : e2_Rs := [((9, 0, 0), q_b463_0)]
noncomputable def s_b463 : e2_Sm := (196, as_b463, E_b463, f_b463, rs_b463)
noncomputable def S_b463 : List e2_Sm := [s_b158, s_b185, s_b234, s_b268, s_b271, s_b273, s_b462]
noncomputable def I_b463 : List e2_In := [(179, 3, e2x_179)]
set_option maxRecDepth 1000000 in
theorem ck_b463 : e2_run (e2_cal S_b463 I_b463 4000 1) (e2_fin rs_b463) e2x_196 (fun _ => false) (fun _ _ _ _ _ => false) 4000 (e2_seek e2x_196 0) (e2_al 2 as_b463) [] E_b463 f_b463 = true := by decide +kernel
set_option maxRecDepth 1000000 in
theorem co_b463 : e2_okSB E_b463.length as_b463 f_b463 rs_b463 = true := by decide +kernel
theorem cs_b463 (hen : en_ok) (l : Launch) (hh : e2_hand_b l) : e2_smOk l 62 s_b463 := e2_con0 (H := 60) (n := 1) (C := evd_196) (S := S_b463) (I := I_b463) (fuel := 4000) [] hen ei_196 (e2_fa (hh _ hm_b158) (e2_fa ((cs_b185 hen l).mono (by decide)) (e2_fa ((cs_b234 hen l).mono (by decide)) (e2_fa ((cs_b268 hen l).mono (by decide)) (e2_fa ((cs_b271 hen l).mono (by decide)) (e2_fa ((cs_b273 hen l).mono (by decide)) (e2_fa ((cs_b462 hen l).mono (by decide)) e2_fz))))))) (e2_fa ein_179 e2_fz) (by decide) co_b463 ex2_196 ck_b463
/-! b464 X10_glyphHere -/
def as_b464 : List ev_V := [(2, 83, 0)]
def E_b464 : e2_E := [(2147483648, 2147583648, 0, 0), (2147483648, 2147483656, 1, 0), (2147483648, 2147485249, 2, 0)]
def bn2521 : e2_Q8 := (bn2498, bn1146)
noncomputable def f_b464 : ev_H := (bn2521 : e2_Q8)
noncomputable def q_b464_0 : ev_H := (bn2521 : e2_Q8)
noncomputable def rs_b464 : e2_Rs := [((0, 4294967295, 0), q_b464_0)]
noncomputable def s_b464 : e2_Sm := (190, as_b464, E_b464, f_b464, rs_b464)
noncomputable def S_b464 : List e2_Sm := [s_b276]
noncomputable def I_b464 : List e2_In := []
set_option maxRecDepth 1000000 in
theorem ck_b464 : e2_run (e2_cal S_b464 I_b464 4000 0) (e2_fin rs_b464) e2x_190 (fun _ => false) (fun _ _ _ _ _ => false) 4000 (e2_seek e2x_190 0) (e2_al 1 as_b464) [] E_b464 f_b464 = true := by decide +kernel
set_option maxRecDepth 1000000 in
theorem co_b464 : e2_okSB E_b464.length as_b464 f_b464 rs_b464 = true := by decide +kernel
theorem cs_b464 (hen : en_ok) (l : Launch) : e2_smOk l 2 s_b464 := e2_con0 (H := 1) (n := 0) (C := evd_190) (S := S_b464) (I := I_b464) (fuel := 4000) [] hen ei_190 (e2_fa (cs_b276 hen l) e2_fz) e2_fz (by decide) co_b464 ex2_190 ck_b464
/-! b465 X10_readGlyph -/
def as_b465 : List ev_V := [(2, 83, 0)]
def E_b465 : e2_E := [(2147483648, 2147583648, 0, 0), (2147483648, 2147483656, 1, 0), (2147483648, 2147485249, 2, 0)]
def bn2522 : e2_Q7 := (bn645, bn1454)
def bn2523 : e2_Q8 := (bn2394, bn2522)
noncomputable def f_b465 : ev_H := (bn2523 : e2_Q8)
def bn2524 : e2_Q7 := (bn645, bn1459)
def bn2525 : e2_Q8 := (bn2508, bn2524)
noncomputable def q_b465_0 : ev_H := (bn2525 : e2_Q8)
noncomputable def rs_b465 : e2_Rs := [((9, 0, 0), q_b465_0)]
noncomputable def s_b465 : e2_Sm := (196, as_b465, E_b465, f_b465, rs_b465)
noncomputable def S_b465 : List e2_Sm := [s_b156, s_b178, s_b232, s_b275, s_b278, s_b280, s_b464]
noncomputable def I_b465 : List e2_In := [(179, 3, e2x_179)]
set_option maxRecDepth 1000000 in
theorem ck_b465 : e2_run (e2_cal S_b465 I_b465 4000 1) (e2_fin rs_b465) e2x_196 (fun _ => false) (fun _ _ _ _ _ => false) 4000 (e2_seek e2x_196 0) (e2_al 2 as_b465) [] E_b465 f_b465 = true := by decide +kernel
set_option maxRecDepth 1000000 in
theorem co_b465 : e2_okSB E_b465.length as_b465 f_b465 rs_b465 = true := by decide +kernel
theorem cs_b465 (hen : en_ok) (l : Launch) (hh : e2_hand_b l) : e2_smOk l 62 s_b465 := e2_con0 (H := 60) (n := 1) (C := evd_196) (S := S_b465) (I := I_b465) (fuel := 4000) [] hen ei_196 (e2_fa (hh _ hm_b156) (e2_fa ((cs_b178 hen l).mono (by decide)) (e2_fa ((cs_b232 hen l).mono (by decide)) (e2_fa ((cs_b275 hen l).mono (by decide)) (e2_fa ((cs_b278 hen l).mono (by decide)) (e2_fa ((cs_b280 hen l).mono (by decide)) (e2_fa ((cs_b464 hen l).mono (by decide)) e2_fz))))))) (e2_fa ein_179 e2_fz) (by decide) co_b465 ex2_196 ck_b465
/-! b466 X10_glyphHere -/
def as_b466 : List ev_V := [(2, 83, 0)]
def E_b466 : e2_E := [(2147483648, 2147583648, 0, 0), (2147483648, 2147483656, 1, 0), (2147483648, 2147485249, 2, 0)]
def bn2526 : e2_Q7 := (bn2497, bn1463)
def bn2527 : e2_Q8 := (bn2526, bn1150)
noncomputable def f_b466 : ev_H := (bn2527 : e2_Q8)
noncomputable def q_b466_0 : ev_H := (bn2527 : e2_Q8)
noncomputable def rs_b466 : e2_Rs := [((11, 2147483647, 2147483655), q_b466_0)]
noncomputable def s_b466 : e2_Sm := (190, as_b466, E_b466, f_b466, rs_b466)
noncomputable def S_b466 : List e2_Sm := [s_b283]
noncomputable def I_b466 : List e2_In := []
set_option maxRecDepth 1000000 in
theorem ck_b466 : e2_run (e2_cal S_b466 I_b466 4000 0) (e2_fin rs_b466) e2x_190 (fun _ => false) (fun _ _ _ _ _ => false) 4000 (e2_seek e2x_190 0) (e2_al 1 as_b466) [] E_b466 f_b466 = true := by decide +kernel
set_option maxRecDepth 1000000 in
theorem co_b466 : e2_okSB E_b466.length as_b466 f_b466 rs_b466 = true := by decide +kernel
theorem cs_b466 (hen : en_ok) (l : Launch) : e2_smOk l 2 s_b466 := e2_con0 (H := 1) (n := 0) (C := evd_190) (S := S_b466) (I := I_b466) (fuel := 4000) [] hen ei_190 (e2_fa (cs_b283 hen l) e2_fz) e2_fz (by decide) co_b466 ex2_190 ck_b466
/-! b467 X10_readGlyph -/
def as_b467 : List ev_V := [(2, 83, 0)]
def E_b467 : e2_E := [(2147483648, 2147583648, 0, 0), (2147483648, 2147483656, 1, 0), (2147483648, 2147485249, 2, 0)]
def bn2528 : e2_Q7 := (bn2417, bn1524)
def bn2529 : e2_Q8 := (bn2394, bn2528)
noncomputable def f_b467 : ev_H := (bn2529 : e2_Q8)
def bn2530 : e2_Q5 := (bn675, bn1488)
def bn2531 : e2_Q6 := (bn2530, bn356)
def bn2532 : e2_Q7 := (bn2531, bn1531)
def bn2533 : e2_Q8 := (bn2508, bn2532)
noncomputable def q_b467_0 : ev_H := (bn2533 : e2_Q8)
def bn2534 : e2_Q7 := (bn2417, bn1536)
def bn2535 : e2_Q8 := (bn2508, bn2534)
noncomputable def q_b467_1 : ev_H := (bn2535 : e2_Q8)
def bn2536 : e2_Q7 := (bn2531, bn1541)
def bn2537 : e2_Q8 := (bn2508, bn2536)
noncomputable def q_b467_2 : ev_H := (bn2537 : e2_Q8)
def bn2538 : e2_Q7 := (bn2531, bn1546)
def bn2539 : e2_Q8 := (bn2508, bn2538)
noncomputable def q_b467_3 : ev_H := (bn2539 : e2_Q8)
def bn2540 : e2_Q7 := (bn2531, bn1551)
def bn2541 : e2_Q8 := (bn2508, bn2540)
noncomputable def q_b467_4 : ev_H := (bn2541 : e2_Q8)
def bn2542 : e2_Q7 := (bn2531, bn1556)
def bn2543 : e2_Q8 := (bn2508, bn2542)
noncomputable def q_b467_5 : ev_H := (bn2543 : e2_Q8)
def bn2544 : e2_Q7 := (bn2531, bn1561)
def bn2545 : e2_Q8 := (bn2508, bn2544)
noncomputable def q_b467_6 : ev_H := (bn2545 : e2_Q8)
def bn2546 : e2_Q7 := (bn2531, bn1566)
def bn2547 : e2_Q8 := (bn2508, bn2546)
noncomputable def q_b467_7 : ev_H := (bn2547 : e2_Q8)
def bn2548 : e2_Q7 := (bn2531, bn1417)
def bn2549 : e2_Q8 := (bn2508, bn2548)
noncomputable def q_b467_8 : ev_H := (bn2549 : e2_Q8)
def bn2550 : e2_Q7 := (bn2531, bn1459)
def bn2551 : e2_Q8 := (bn2508, bn2550)
noncomputable def q_b467_9 : ev_H := (bn2551 : e2_Q8)
def bn2552 : e2_Q7 := (bn2417, bn1575)
def bn2553 : e2_Q8 := (bn2508, bn2552)
noncomputable def q_b467_10 : ev_H := (bn2553 : e2_Q8)
noncomputable def rs_b467 : e2_Rs := [((9, 0, 0), q_b467_0), ((9, 0, 0), q_b467_1), ((9, 0, 0), q_b467_2), ((9, 0, 0), q_b467_3), ((9, 0, 0), q_b467_4), ((9, 0, 0), q_b467_5), ((9, 0, 0), q_b467_6), ((9, 0, 0), q_b467_7), ((9, 0, 0), q_b467_8), ((9, 0, 0), q_b467_9), ((9, 0, 0), q_b467_10)]
noncomputable def s_b467 : e2_Sm := (196, as_b467, E_b467, f_b467, rs_b467)
noncomputable def S_b467 : List e2_Sm := [s_b159, s_b160, s_b161, s_b162, s_b163, s_b164, s_b181, s_b183, s_b184, s_b186, s_b188, s_b190, s_b191, s_b192, s_b232, s_b233, s_b235, s_b236, s_b237, s_b238, s_b239, s_b240, s_b241, s_b242, s_b243, s_b244, s_b257, s_b259, s_b278, s_b280, s_b282, s_b285, s_b286, s_b287, s_b288, s_b289, s_b290, s_b291, s_b292, s_b293, s_b294, s_b295, s_b297, s_b299, s_b301, s_b303, s_b305, s_b307, s_b309, s_b311, s_b313, s_b315, s_b466]
noncomputable def I_b467 : List e2_In := [(179, 3, e2x_179)]
set_option maxRecDepth 1000000 in
theorem ck_b467 : e2_run (e2_cal S_b467 I_b467 4000 1) (e2_fin rs_b467) e2x_196 (fun _ => false) (fun _ _ _ _ _ => false) 4000 (e2_seek e2x_196 0) (e2_al 2 as_b467) [] E_b467 f_b467 = true := by decide +kernel
set_option maxRecDepth 1000000 in
theorem co_b467 : e2_okSB E_b467.length as_b467 f_b467 rs_b467 = true := by decide +kernel
theorem cs_b467 (hen : en_ok) (l : Launch) (hh : e2_hand_b l) : e2_smOk l 62 s_b467 := e2_con0 (H := 60) (n := 1) (C := evd_196) (S := S_b467) (I := I_b467) (fuel := 4000) [] hen ei_196 (e2_fa (hh _ hm_b159) (e2_fa (hh _ hm_b160) (e2_fa (hh _ hm_b161) (e2_fa (hh _ hm_b162) (e2_fa (hh _ hm_b163) (e2_fa (hh _ hm_b164) (e2_fa ((cs_b181 hen l).mono (by decide)) (e2_fa ((cs_b183 hen l).mono (by decide)) (e2_fa ((cs_b184 hen l).mono (by decide)) (e2_fa ((cs_b186 hen l).mono (by decide)) (e2_fa ((cs_b188 hen l).mono (by decide)) (e2_fa ((cs_b190 hen l).mono (by decide)) (e2_fa ((cs_b191 hen l).mono (by decide)) (e2_fa ((cs_b192 hen l).mono (by decide)) (e2_fa ((cs_b232 hen l).mono (by decide)) (e2_fa ((cs_b233 hen l).mono (by decide)) (e2_fa ((cs_b235 hen l).mono (by decide)) (e2_fa ((cs_b236 hen l).mono (by decide)) (e2_fa ((cs_b237 hen l).mono (by decide)) (e2_fa ((cs_b238 hen l).mono (by decide)) (e2_fa ((cs_b239 hen l).mono (by decide)) (e2_fa ((cs_b240 hen l).mono (by decide)) (e2_fa ((cs_b241 hen l).mono (by decide)) (e2_fa ((cs_b242 hen l).mono (by decide)) (e2_fa ((cs_b243 hen l).mono (by decide)) (e2_fa ((cs_b244 hen l).mono (by decide)) (e2_fa ((cs_b257 hen l).mono (by decide)) (e2_fa ((cs_b259 hen l).mono (by decide)) (e2_fa ((cs_b278 hen l).mono (by decide)) (e2_fa ((cs_b280 hen l).mono (by decide)) (e2_fa ((cs_b282 hen l).mono (by decide)) (e2_fa ((cs_b285 hen l).mono (by decide)) (e2_fa ((cs_b286 hen l).mono (by decide)) (e2_fa ((cs_b287 hen l).mono (by decide)) (e2_fa ((cs_b288 hen l).mono (by decide)) (e2_fa ((cs_b289 hen l).mono (by decide)) (e2_fa ((cs_b290 hen l).mono (by decide)) (e2_fa ((cs_b291 hen l).mono (by decide)) (e2_fa ((cs_b292 hen l).mono (by decide)) (e2_fa ((cs_b293 hen l).mono (by decide)) (e2_fa ((cs_b294 hen l).mono (by decide)) (e2_fa ((cs_b295 hen l).mono (by decide)) (e2_fa ((cs_b297 hen l).mono (by decide)) (e2_fa ((cs_b299 hen l).mono (by decide)) (e2_fa ((cs_b301 hen l).mono (by decide)) (e2_fa ((cs_b303 hen l).mono (by decide)) (e2_fa ((cs_b305 hen l).mono (by decide)) (e2_fa ((cs_b307 hen l).mono (by decide)) (e2_fa ((cs_b309 hen l).mono (by decide)) (e2_fa ((cs_b311 hen l).mono (by decide)) (e2_fa ((cs_b313 hen l).mono (by decide)) (e2_fa ((cs_b315 hen l).mono (by decide)) (e2_fa ((cs_b466 hen l).mono (by decide)) e2_fz))))))))))))))))))))))))))))))))))))))))))))))))))))) (e2_fa ein_179 e2_fz) (by decide) co_b467 ex2_196 ck_b467
/-! b468 X10_readNever -/
def as_b468 : List ev_V := [(2, 83, 0)]
def E_b468 : e2_E := [(2147483648, 2147583648, 0, 0), (2147483648, 2147483656, 1, 0), (2147483648, 2147485249, 2, 0)]
noncomputable def f_b468 : ev_H := (bn2499 : e2_Q8)
def bn2554 : e2_Q8 := (bn2498, bn1084)
noncomputable def q_b468_0 : ev_H := (bn2554 : e2_Q8)
noncomputable def rs_b468 : e2_Rs := [((9, 0, 0), q_b468_0)]
noncomputable def s_b468 : e2_Sm := (197, as_b468, E_b468, f_b468, rs_b468)
noncomputable def S_b468 : List e2_Sm := [s_b285, s_b458]
noncomputable def I_b468 : List e2_In := [(174, 1, e2x_174)]
set_option maxRecDepth 1000000 in
theorem ck_b468 : e2_run (e2_cal S_b468 I_b468 4000 1) (e2_fin rs_b468) e2x_197 (fun _ => false) (fun _ _ _ _ _ => false) 4000 (e2_seek e2x_197 0) (e2_al 3 as_b468) [] E_b468 f_b468 = true := by decide +kernel
set_option maxRecDepth 1000000 in
theorem co_b468 : e2_okSB E_b468.length as_b468 f_b468 rs_b468 = true := by decide +kernel
theorem cs_b468 (hen : en_ok) (l : Launch) : e2_smOk l 5 s_b468 := e2_con0 (H := 3) (n := 1) (C := evd_197) (S := S_b468) (I := I_b468) (fuel := 4000) [] hen ei_197 (e2_fa (cs_b285 hen l) (e2_fa ((cs_b458 hen l).mono (by decide)) e2_fz)) (e2_fa ein_174 e2_fz) (by decide) co_b468 ex2_197 ck_b468
/-! b469 X10_readNever -/
def as_b469 : List ev_V := [(2, 83, 0)]
def E_b469 : e2_E := [(2147483648, 2147583648, 0, 0), (2147483648, 2147483656, 1, 0), (2147483648, 2147485249, 2, 0)]
noncomputable def f_b469 : ev_H := (bn2511 : e2_Q8)
def bn2555 : e2_Q8 := (bn2498, bn1090)
noncomputable def q_b469_0 : ev_H := (bn2555 : e2_Q8)
noncomputable def rs_b469 : e2_Rs := [((9, 0, 0), q_b469_0)]
noncomputable def s_b469 : e2_Sm := (197, as_b469, E_b469, f_b469, rs_b469)
noncomputable def S_b469 : List e2_Sm := [s_b318, s_b460]
noncomputable def I_b469 : List e2_In := [(174, 1, e2x_174)]
set_option maxRecDepth 1000000 in
theorem ck_b469 : e2_run (e2_cal S_b469 I_b469 4000 1) (e2_fin rs_b469) e2x_197 (fun _ => false) (fun _ _ _ _ _ => false) 4000 (e2_seek e2x_197 0) (e2_al 3 as_b469) [] E_b469 f_b469 = true := by decide +kernel
set_option maxRecDepth 1000000 in
theorem co_b469 : e2_okSB E_b469.length as_b469 f_b469 rs_b469 = true := by decide +kernel
theorem cs_b469 (hen : en_ok) (l : Launch) : e2_smOk l 5 s_b469 := e2_con0 (H := 3) (n := 1) (C := evd_197) (S := S_b469) (I := I_b469) (fuel := 4000) [] hen ei_197 (e2_fa (cs_b318 hen l) (e2_fa ((cs_b460 hen l).mono (by decide)) e2_fz)) (e2_fa ein_174 e2_fz) (by decide) co_b469 ex2_197 ck_b469
/-! b470 X10_readNever -/
def as_b470 : List ev_V := [(2, 83, 0)]
def E_b470 : e2_E := [(2147483648, 2147583648, 0, 0), (2147483648, 2147483656, 1, 0), (2147483648, 2147485249, 2, 0)]
noncomputable def f_b470 : ev_H := (bn2516 : e2_Q8)
def bn2556 : e2_Q8 := (bn2498, bn1096)
noncomputable def q_b470_0 : ev_H := (bn2556 : e2_Q8)
noncomputable def rs_b470 : e2_Rs := [((9, 0, 0), q_b470_0)]
noncomputable def s_b470 : e2_Sm := (197, as_b470, E_b470, f_b470, rs_b470)
noncomputable def S_b470 : List e2_Sm := [s_b320, s_b462]
noncomputable def I_b470 : List e2_In := [(174, 1, e2x_174)]
set_option maxRecDepth 1000000 in
theorem ck_b470 : e2_run (e2_cal S_b470 I_b470 4000 1) (e2_fin rs_b470) e2x_197 (fun _ => false) (fun _ _ _ _ _ => false) 4000 (e2_seek e2x_197 0) (e2_al 3 as_b470) [] E_b470 f_b470 = true := by decide +kernel
set_option maxRecDepth 1000000 in
theorem co_b470 : e2_okSB E_b470.length as_b470 f_b470 rs_b470 = true := by decide +kernel
theorem cs_b470 (hen : en_ok) (l : Launch) : e2_smOk l 5 s_b470 := e2_con0 (H := 3) (n := 1) (C := evd_197) (S := S_b470) (I := I_b470) (fuel := 4000) [] hen ei_197 (e2_fa (cs_b320 hen l) (e2_fa ((cs_b462 hen l).mono (by decide)) e2_fz)) (e2_fa ein_174 e2_fz) (by decide) co_b470 ex2_197 ck_b470
/-! b471 X10_readNever -/
def as_b471 : List ev_V := [(2, 83, 0)]
def E_b471 : e2_E := [(2147483648, 2147583648, 0, 0), (2147483648, 2147483656, 1, 0), (2147483648, 2147485249, 2, 0)]
noncomputable def f_b471 : ev_H := (bn2521 : e2_Q8)
def bn2557 : e2_Q8 := (bn2498, bn1082)
noncomputable def q_b471_0 : ev_H := (bn2557 : e2_Q8)
noncomputable def rs_b471 : e2_Rs := [((9, 0, 0), q_b471_0)]
noncomputable def s_b471 : e2_Sm := (197, as_b471, E_b471, f_b471, rs_b471)
noncomputable def S_b471 : List e2_Sm := [s_b288, s_b464]
noncomputable def I_b471 : List e2_In := [(174, 1, e2x_174)]
set_option maxRecDepth 1000000 in
theorem ck_b471 : e2_run (e2_cal S_b471 I_b471 4000 1) (e2_fin rs_b471) e2x_197 (fun _ => false) (fun _ _ _ _ _ => false) 4000 (e2_seek e2x_197 0) (e2_al 3 as_b471) [] E_b471 f_b471 = true := by decide +kernel
set_option maxRecDepth 1000000 in
theorem co_b471 : e2_okSB E_b471.length as_b471 f_b471 rs_b471 = true := by decide +kernel
theorem cs_b471 (hen : en_ok) (l : Launch) : e2_smOk l 5 s_b471 := e2_con0 (H := 3) (n := 1) (C := evd_197) (S := S_b471) (I := I_b471) (fuel := 4000) [] hen ei_197 (e2_fa (cs_b288 hen l) (e2_fa ((cs_b464 hen l).mono (by decide)) e2_fz)) (e2_fa ein_174 e2_fz) (by decide) co_b471 ex2_197 ck_b471
/-! b472 X10_glyphHere -/
def as_b472 : List ev_V := [(2, 83, 0)]
def E_b472 : e2_E := [(2147483648, 2147583648, 0, 0), (2147483648, 2147483656, 1, 0), (2147483648, 2147485249, 2, 0)]
def bn2558 : e2_Q8 := (bn2498, bn1152)
noncomputable def f_b472 : ev_H := (bn2558 : e2_Q8)
noncomputable def q_b472_0 : ev_H := (bn2558 : e2_Q8)
noncomputable def rs_b472 : e2_Rs := [((0, 4294967295, 0), q_b472_0)]
noncomputable def s_b472 : e2_Sm := (190, as_b472, E_b472, f_b472, rs_b472)
noncomputable def S_b472 : List e2_Sm := [s_b323]
noncomputable def I_b472 : List e2_In := []
set_option maxRecDepth 1000000 in
theorem ck_b472 : e2_run (e2_cal S_b472 I_b472 4000 0) (e2_fin rs_b472) e2x_190 (fun _ => false) (fun _ _ _ _ _ => false) 4000 (e2_seek e2x_190 0) (e2_al 1 as_b472) [] E_b472 f_b472 = true := by decide +kernel
set_option maxRecDepth 1000000 in
theorem co_b472 : e2_okSB E_b472.length as_b472 f_b472 rs_b472 = true := by decide +kernel
theorem cs_b472 (hen : en_ok) (l : Launch) : e2_smOk l 2 s_b472 := e2_con0 (H := 1) (n := 0) (C := evd_190) (S := S_b472) (I := I_b472) (fuel := 4000) [] hen ei_190 (e2_fa (cs_b323 hen l) e2_fz) e2_fz (by decide) co_b472 ex2_190 ck_b472
/-! b473 X10_glyphHere -/
def as_b473 : List ev_V := [(2, 83, 0)]
def E_b473 : e2_E := [(2147483648, 2147583648, 0, 0), (2147483648, 2147483656, 1, 0), (2147483648, 2147485249, 2, 0)]
def bn2559 : e2_Q8 := (bn2498, bn1198)
noncomputable def f_b473 : ev_H := (bn2559 : e2_Q8)
noncomputable def q_b473_0 : ev_H := (bn2559 : e2_Q8)
noncomputable def rs_b473 : e2_Rs := [((0, 4294967295, 0), q_b473_0)]
noncomputable def s_b473 : e2_Sm := (190, as_b473, E_b473, f_b473, rs_b473)
noncomputable def S_b473 : List e2_Sm := [s_b325]
noncomputable def I_b473 : List e2_In := []
set_option maxRecDepth 1000000 in
theorem ck_b473 : e2_run (e2_cal S_b473 I_b473 4000 0) (e2_fin rs_b473) e2x_190 (fun _ => false) (fun _ _ _ _ _ => false) 4000 (e2_seek e2x_190 0) (e2_al 1 as_b473) [] E_b473 f_b473 = true := by decide +kernel
set_option maxRecDepth 1000000 in
theorem co_b473 : e2_okSB E_b473.length as_b473 f_b473 rs_b473 = true := by decide +kernel
theorem cs_b473 (hen : en_ok) (l : Launch) : e2_smOk l 2 s_b473 := e2_con0 (H := 1) (n := 0) (C := evd_190) (S := S_b473) (I := I_b473) (fuel := 4000) [] hen ei_190 (e2_fa (cs_b325 hen l) e2_fz) e2_fz (by decide) co_b473 ex2_190 ck_b473
/-! b474 X10_readNever -/
def as_b474 : List ev_V := [(2, 83, 0)]
def E_b474 : e2_E := [(2147483648, 2147583648, 0, 0), (2147483648, 2147483656, 1, 0), (2147483648, 2147485249, 2, 0)]
def bn2560 : e2_Q6 := (bn2496, bn1584)
def bn2561 : e2_Q7 := (bn2560, bn1463)
def bn2562 : e2_Q8 := (bn2561, bn1588)
noncomputable def f_b474 : ev_H := (bn2562 : e2_Q8)
def bn2563 : e2_Q8 := (bn2561, bn1590)
noncomputable def q_b474_0 : ev_H := (bn2563 : e2_Q8)
def bn2564 : e2_Q8 := (bn2561, bn1592)
noncomputable def q_b474_1 : ev_H := (bn2564 : e2_Q8)
def bn2565 : e2_Q8 := (bn2561, bn1594)
noncomputable def q_b474_2 : ev_H := (bn2565 : e2_Q8)
def bn2566 : e2_Q8 := (bn2561, bn1596)
noncomputable def q_b474_3 : ev_H := (bn2566 : e2_Q8)
def bn2567 : e2_Q8 := (bn2561, bn1598)
noncomputable def q_b474_4 : ev_H := (bn2567 : e2_Q8)
def bn2568 : e2_Q8 := (bn2561, bn1600)
noncomputable def q_b474_5 : ev_H := (bn2568 : e2_Q8)
def bn2569 : e2_Q8 := (bn2561, bn1602)
noncomputable def q_b474_6 : ev_H := (bn2569 : e2_Q8)
def bn2570 : e2_Q8 := (bn2561, bn1604)
noncomputable def q_b474_7 : ev_H := (bn2570 : e2_Q8)
def bn2571 : e2_Q8 := (bn2561, bn1606)
noncomputable def q_b474_8 : ev_H := (bn2571 : e2_Q8)
def bn2572 : e2_Q8 := (bn2561, bn1608)
noncomputable def q_b474_9 : ev_H := (bn2572 : e2_Q8)
noncomputable def rs_b474 : e2_Rs := [((9, 0, 0), q_b474_0), ((9, 0, 0), q_b474_1), ((9, 0, 0), q_b474_2), ((9, 0, 0), q_b474_3), ((9, 0, 0), q_b474_4), ((9, 0, 0), q_b474_5), ((9, 0, 0), q_b474_6), ((9, 0, 0), q_b474_7), ((9, 0, 0), q_b474_8), ((9, 0, 0), q_b474_9)]
noncomputable def s_b474 : e2_Sm := (197, as_b474, E_b474, f_b474, rs_b474)
noncomputable def S_b474 : List e2_Sm := [s_b285, s_b286, s_b287, s_b288, s_b327, s_b328, s_b329, s_b330, s_b458, s_b464, s_b466, s_b472, s_b473]
noncomputable def I_b474 : List e2_In := [(173, 3, e2x_173), (174, 1, e2x_174)]
set_option maxRecDepth 1000000 in
theorem ck_b474 : e2_run (e2_cal S_b474 I_b474 4000 1) (e2_fin rs_b474) e2x_197 (fun _ => false) (fun _ _ _ _ _ => false) 4000 (e2_seek e2x_197 0) (e2_al 3 as_b474) [] E_b474 f_b474 = true := by decide +kernel
set_option maxRecDepth 1000000 in
theorem co_b474 : e2_okSB E_b474.length as_b474 f_b474 rs_b474 = true := by decide +kernel
theorem cs_b474 (hen : en_ok) (l : Launch) : e2_smOk l 8 s_b474 := e2_con0 (H := 6) (n := 1) (C := evd_197) (S := S_b474) (I := I_b474) (fuel := 4000) [] hen ei_197 (e2_fa ((cs_b285 hen l).mono (by decide)) (e2_fa ((cs_b286 hen l).mono (by decide)) (e2_fa ((cs_b287 hen l).mono (by decide)) (e2_fa ((cs_b288 hen l).mono (by decide)) (e2_fa ((cs_b327 hen l).mono (by decide)) (e2_fa (cs_b328 hen l) (e2_fa (cs_b329 hen l) (e2_fa ((cs_b330 hen l).mono (by decide)) (e2_fa ((cs_b458 hen l).mono (by decide)) (e2_fa ((cs_b464 hen l).mono (by decide)) (e2_fa ((cs_b466 hen l).mono (by decide)) (e2_fa ((cs_b472 hen l).mono (by decide)) (e2_fa ((cs_b473 hen l).mono (by decide)) e2_fz))))))))))))) (e2_fa ein_173 (e2_fa ein_174 e2_fz)) (by decide) co_b474 ex2_197 ck_b474
/-! b475 X10_readLine -/
def as_b475 : List ev_V := [(2, 83, 0)]
def E_b475 : e2_E := [(2147483648, 2147583648, 0, 0), (2147483648, 2147483656, 1, 0), (2147483648, 2147485249, 2, 0)]
def bn2573 : e2_Q7 := (bn2482, bn1735)
def bn2574 : e2_Q8 := (bn2476, bn2573)
noncomputable def f_b475 : ev_H := (bn2574 : e2_Q8)
def bn2575 : e2_Q7 := (bn2482, bn1743)
def bn2576 : e2_Q8 := (bn2476, bn2575)
noncomputable def q_b475_0 : ev_H := (bn2576 : e2_Q8)
def bn2577 : e2_Q7 := (bn2482, bn1748)
def bn2578 : e2_Q8 := (bn2476, bn2577)
noncomputable def q_b475_1 : ev_H := (bn2578 : e2_Q8)
def bn2579 : e2_Q7 := (bn2482, bn1752)
def bn2580 : e2_Q8 := (bn2476, bn2579)
noncomputable def q_b475_2 : ev_H := (bn2580 : e2_Q8)
def bn2581 : e2_Q7 := (bn2482, bn1756)
def bn2582 : e2_Q8 := (bn2476, bn2581)
noncomputable def q_b475_3 : ev_H := (bn2582 : e2_Q8)
noncomputable def q_b475_4 : ev_H := (bn2484 : e2_Q8)
noncomputable def q_b475_5 : ev_H := (bn2486 : e2_Q8)
noncomputable def q_b475_6 : ev_H := (bn2488 : e2_Q8)
noncomputable def q_b475_7 : ev_H := (bn2490 : e2_Q8)
noncomputable def q_b475_8 : ev_H := (bn2492 : e2_Q8)
def bn2583 : e2_Q7 := (bn2482, bn1780)
def bn2584 : e2_Q8 := (bn2476, bn2583)
noncomputable def q_b475_9 : ev_H := (bn2584 : e2_Q8)
def bn2585 : e2_Q7 := (bn2482, bn1784)
def bn2586 : e2_Q8 := (bn2476, bn2585)
noncomputable def q_b475_10 : ev_H := (bn2586 : e2_Q8)
def bn2587 : e2_Q4 := (bn747, bn2504)
def bn2588 : e2_Q5 := (bn329, bn2587)
def bn2589 : e2_Q6 := (bn2588, bn1717)
def bn2590 : e2_Q7 := (bn2589, bn1724)
def bn2591 : e2_Q8 := (bn2590, bn2577)
noncomputable def q_b475_11 : ev_H := (bn2591 : e2_Q8)
def bn2592 : e2_Q8 := (bn2590, bn2579)
noncomputable def q_b475_12 : ev_H := (bn2592 : e2_Q8)
def bn2593 : e2_Q8 := (bn2590, bn2583)
noncomputable def q_b475_13 : ev_H := (bn2593 : e2_Q8)
def bn2594 : e2_Q8 := (bn2590, bn2585)
noncomputable def q_b475_14 : ev_H := (bn2594 : e2_Q8)
def bn2595 : e2_Q5 := (bn675, bn1726)
def bn2596 : e2_Q6 := (bn2595, bn1729)
def bn2597 : e2_Q7 := (bn2596, bn1760)
def bn2598 : e2_Q8 := (bn2590, bn2597)
noncomputable def q_b475_15 : ev_H := (bn2598 : e2_Q8)
def bn2599 : e2_Q7 := (bn2596, bn1764)
def bn2600 : e2_Q8 := (bn2590, bn2599)
noncomputable def q_b475_16 : ev_H := (bn2600 : e2_Q8)
def bn2601 : e2_Q7 := (bn2596, bn1768)
def bn2602 : e2_Q8 := (bn2590, bn2601)
noncomputable def q_b475_17 : ev_H := (bn2602 : e2_Q8)
def bn2603 : e2_Q7 := (bn2596, bn1772)
def bn2604 : e2_Q8 := (bn2590, bn2603)
noncomputable def q_b475_18 : ev_H := (bn2604 : e2_Q8)
def bn2605 : e2_Q7 := (bn2596, bn1776)
def bn2606 : e2_Q8 := (bn2590, bn2605)
noncomputable def q_b475_19 : ev_H := (bn2606 : e2_Q8)
def bn2607 : e2_Q7 := (bn2482, bn1808)
def bn2608 : e2_Q8 := (bn2590, bn2607)
noncomputable def q_b475_20 : ev_H := (bn2608 : e2_Q8)
def bn2609 : e2_Q8 := (bn2590, bn2581)
noncomputable def q_b475_21 : ev_H := (bn2609 : e2_Q8)
noncomputable def rs_b475 : e2_Rs := [((9, 0, 0), q_b475_0), ((9, 0, 0), q_b475_1), ((9, 0, 0), q_b475_2), ((9, 0, 0), q_b475_3), ((9, 0, 0), q_b475_4), ((9, 0, 0), q_b475_5), ((9, 0, 0), q_b475_6), ((9, 0, 0), q_b475_7), ((9, 0, 0), q_b475_8), ((9, 0, 0), q_b475_9), ((9, 0, 0), q_b475_10), ((9, 0, 0), q_b475_11), ((9, 0, 0), q_b475_12), ((9, 0, 0), q_b475_13), ((9, 0, 0), q_b475_14), ((9, 0, 0), q_b475_15), ((9, 0, 0), q_b475_16), ((9, 0, 0), q_b475_17), ((9, 0, 0), q_b475_18), ((9, 0, 0), q_b475_19), ((9, 0, 0), q_b475_20), ((9, 0, 0), q_b475_21)]
noncomputable def s_b475 : e2_Sm := (187, as_b475, E_b475, f_b475, rs_b475)
noncomputable def S_b475 : List e2_Sm := [s_b173, s_b178, s_b179, s_b180, s_b181, s_b182, s_b183, s_b184, s_b185, s_b186, s_b187, s_b188, s_b189, s_b190, s_b191, s_b192, s_b193, s_b194, s_b195, s_b196, s_b197, s_b198, s_b199, s_b217, s_b218, s_b219, s_b220, s_b221, s_b249, s_b250, s_b251, s_b252, s_b253, s_b332, s_b333, s_b334, s_b335, s_b336, s_b338, s_b341, s_b344, s_b346, s_b348, s_b459, s_b461, s_b463, s_b465, s_b467, s_b468, s_b469, s_b470, s_b471, s_b474]
noncomputable def I_b475 : List e2_In := [(170, 2, e2x_170), (173, 3, e2x_173), (174, 1, e2x_174), (178, 2, e2x_178), (179, 3, e2x_179), (180, 1, e2x_180), (186, 1, e2x_186)]
set_option maxRecDepth 1000000 in
theorem ck_b475 : e2_run (e2_cal S_b475 I_b475 4000 2) (e2_fin rs_b475) e2x_187 (fun _ => false) (fun _ _ _ _ _ => false) 4000 (e2_seek e2x_187 0) (e2_al 3 as_b475) [] E_b475 f_b475 = true := by decide +kernel
set_option maxRecDepth 1000000 in
theorem co_b475 : e2_okSB E_b475.length as_b475 f_b475 rs_b475 = true := by decide +kernel
theorem cs_b475 (hen : en_ok) (l : Launch) (hh : e2_hand_b l) : e2_smOk l 65 s_b475 := e2_con0 (H := 62) (n := 2) (C := evd_187) (S := S_b475) (I := I_b475) (fuel := 4000) [] hen ei_187 (e2_fa ((cs_b173 hen l).mono (by decide)) (e2_fa ((cs_b178 hen l).mono (by decide)) (e2_fa ((cs_b179 hen l).mono (by decide)) (e2_fa ((cs_b180 hen l).mono (by decide)) (e2_fa ((cs_b181 hen l).mono (by decide)) (e2_fa ((cs_b182 hen l).mono (by decide)) (e2_fa ((cs_b183 hen l).mono (by decide)) (e2_fa ((cs_b184 hen l).mono (by decide)) (e2_fa ((cs_b185 hen l).mono (by decide)) (e2_fa ((cs_b186 hen l).mono (by decide)) (e2_fa ((cs_b187 hen l).mono (by decide)) (e2_fa ((cs_b188 hen l).mono (by decide)) (e2_fa ((cs_b189 hen l).mono (by decide)) (e2_fa ((cs_b190 hen l).mono (by decide)) (e2_fa ((cs_b191 hen l).mono (by decide)) (e2_fa ((cs_b192 hen l).mono (by decide)) (e2_fa ((cs_b193 hen l).mono (by decide)) (e2_fa ((cs_b194 hen l).mono (by decide)) (e2_fa ((cs_b195 hen l).mono (by decide)) (e2_fa ((cs_b196 hen l).mono (by decide)) (e2_fa ((cs_b197 hen l).mono (by decide)) (e2_fa ((cs_b198 hen l).mono (by decide)) (e2_fa ((cs_b199 hen l).mono (by decide)) (e2_fa ((cs_b217 hen l).mono (by decide)) (e2_fa ((cs_b218 hen l).mono (by decide)) (e2_fa ((cs_b219 hen l).mono (by decide)) (e2_fa ((cs_b220 hen l).mono (by decide)) (e2_fa ((cs_b221 hen l).mono (by decide)) (e2_fa ((cs_b249 hen l).mono (by decide)) (e2_fa ((cs_b250 hen l).mono (by decide)) (e2_fa ((cs_b251 hen l).mono (by decide)) (e2_fa ((cs_b252 hen l).mono (by decide)) (e2_fa ((cs_b253 hen l).mono (by decide)) (e2_fa ((cs_b332 hen l hh).mono (by decide)) (e2_fa ((cs_b333 hen l hh).mono (by decide)) (e2_fa ((cs_b334 hen l hh).mono (by decide)) (e2_fa ((cs_b335 hen l hh).mono (by decide)) (e2_fa ((cs_b336 hen l hh).mono (by decide)) (e2_fa ((cs_b338 hen l).mono (by decide)) (e2_fa ((cs_b341 hen l).mono (by decide)) (e2_fa ((cs_b344 hen l).mono (by decide)) (e2_fa ((cs_b346 hen l).mono (by decide)) (e2_fa ((cs_b348 hen l).mono (by decide)) (e2_fa (cs_b459 hen l hh) (e2_fa (cs_b461 hen l hh) (e2_fa (cs_b463 hen l hh) (e2_fa (cs_b465 hen l hh) (e2_fa (cs_b467 hen l hh) (e2_fa ((cs_b468 hen l).mono (by decide)) (e2_fa ((cs_b469 hen l).mono (by decide)) (e2_fa ((cs_b470 hen l).mono (by decide)) (e2_fa ((cs_b471 hen l).mono (by decide)) (e2_fa ((cs_b474 hen l).mono (by decide)) e2_fz))))))))))))))))))))))))))))))))))))))))))))))))))))) (e2_fa ein_170 (e2_fa ein_173 (e2_fa ein_174 (e2_fa ein_178 (e2_fa ein_179 (e2_fa ein_180 (e2_fa ein_186 e2_fz))))))) (by decide) co_b475 ex2_187 ck_b475
/-! b476 X10_glyphHere -/
def as_b476 : List ev_V := [(2, 83, 0)]
def E_b476 : e2_E := [(2147483648, 2147583648, 0, 0), (2147483648, 2147483656, 1, 0), (2147483648, 2147485249, 2, 0)]
def bn2610 : e2_Q5 := (bn14, bn2505)
def bn2611 : e2_Q6 := (bn2610, bn338)
def bn2612 : e2_Q7 := (bn2611, bn345)
def bn2613 : e2_Q8 := (bn2612, bn1098)
noncomputable def f_b476 : ev_H := (bn2613 : e2_Q8)
noncomputable def q_b476_0 : ev_H := (bn2613 : e2_Q8)
noncomputable def rs_b476 : e2_Rs := [((0, 4294967295, 0), q_b476_0)]
noncomputable def s_b476 : e2_Sm := (190, as_b476, E_b476, f_b476, rs_b476)
noncomputable def S_b476 : List e2_Sm := [s_b255]
noncomputable def I_b476 : List e2_In := []
set_option maxRecDepth 1000000 in
theorem ck_b476 : e2_run (e2_cal S_b476 I_b476 4000 0) (e2_fin rs_b476) e2x_190 (fun _ => false) (fun _ _ _ _ _ => false) 4000 (e2_seek e2x_190 0) (e2_al 1 as_b476) [] E_b476 f_b476 = true := by decide +kernel
set_option maxRecDepth 1000000 in
theorem co_b476 : e2_okSB E_b476.length as_b476 f_b476 rs_b476 = true := by decide +kernel
theorem cs_b476 (hen : en_ok) (l : Launch) : e2_smOk l 2 s_b476 := e2_con0 (H := 1) (n := 0) (C := evd_190) (S := S_b476) (I := I_b476) (fuel := 4000) [] hen ei_190 (e2_fa (cs_b255 hen l) e2_fz) e2_fz (by decide) co_b476 ex2_190 ck_b476
/-! b477 X10_readNever -/
def as_b477 : List ev_V := [(2, 83, 0)]
def E_b477 : e2_E := [(2147483648, 2147583648, 0, 0), (2147483648, 2147483656, 1, 0), (2147483648, 2147485249, 2, 0)]
noncomputable def f_b477 : ev_H := (bn2613 : e2_Q8)
def bn2614 : e2_Q8 := (bn2612, bn1084)
noncomputable def q_b477_0 : ev_H := (bn2614 : e2_Q8)
noncomputable def rs_b477 : e2_Rs := [((9, 0, 0), q_b477_0)]
noncomputable def s_b477 : e2_Sm := (197, as_b477, E_b477, f_b477, rs_b477)
noncomputable def S_b477 : List e2_Sm := [s_b285, s_b476]
noncomputable def I_b477 : List e2_In := [(174, 1, e2x_174)]
set_option maxRecDepth 1000000 in
theorem ck_b477 : e2_run (e2_cal S_b477 I_b477 4000 1) (e2_fin rs_b477) e2x_197 (fun _ => false) (fun _ _ _ _ _ => false) 4000 (e2_seek e2x_197 0) (e2_al 3 as_b477) [] E_b477 f_b477 = true := by decide +kernel
set_option maxRecDepth 1000000 in
theorem co_b477 : e2_okSB E_b477.length as_b477 f_b477 rs_b477 = true := by decide +kernel
theorem cs_b477 (hen : en_ok) (l : Launch) : e2_smOk l 5 s_b477 := e2_con0 (H := 3) (n := 1) (C := evd_197) (S := S_b477) (I := I_b477) (fuel := 4000) [] hen ei_197 (e2_fa (cs_b285 hen l) (e2_fa ((cs_b476 hen l).mono (by decide)) e2_fz)) (e2_fa ein_174 e2_fz) (by decide) co_b477 ex2_197 ck_b477
/-! b478 X10_glyphHere -/
def as_b478 : List ev_V := [(2, 83, 0)]
def E_b478 : e2_E := [(2147483648, 2147583648, 0, 0), (2147483648, 2147483656, 1, 0), (2147483648, 2147485249, 2, 0)]
def bn2615 : e2_Q8 := (bn2612, bn1088)
noncomputable def f_b478 : ev_H := (bn2615 : e2_Q8)
noncomputable def q_b478_0 : ev_H := (bn2615 : e2_Q8)
noncomputable def rs_b478 : e2_Rs := [((0, 4294967295, 0), q_b478_0)]
noncomputable def s_b478 : e2_Sm := (190, as_b478, E_b478, f_b478, rs_b478)
noncomputable def S_b478 : List e2_Sm := [s_b262]
noncomputable def I_b478 : List e2_In := []
set_option maxRecDepth 1000000 in
theorem ck_b478 : e2_run (e2_cal S_b478 I_b478 4000 0) (e2_fin rs_b478) e2x_190 (fun _ => false) (fun _ _ _ _ _ => false) 4000 (e2_seek e2x_190 0) (e2_al 1 as_b478) [] E_b478 f_b478 = true := by decide +kernel
set_option maxRecDepth 1000000 in
theorem co_b478 : e2_okSB E_b478.length as_b478 f_b478 rs_b478 = true := by decide +kernel
theorem cs_b478 (hen : en_ok) (l : Launch) : e2_smOk l 2 s_b478 := e2_con0 (H := 1) (n := 0) (C := evd_190) (S := S_b478) (I := I_b478) (fuel := 4000) [] hen ei_190 (e2_fa (cs_b262 hen l) e2_fz) e2_fz (by decide) co_b478 ex2_190 ck_b478
/-! b479 X10_readNever -/
def as_b479 : List ev_V := [(2, 83, 0)]
def E_b479 : e2_E := [(2147483648, 2147583648, 0, 0), (2147483648, 2147483656, 1, 0), (2147483648, 2147485249, 2, 0)]
noncomputable def f_b479 : ev_H := (bn2615 : e2_Q8)
def bn2616 : e2_Q8 := (bn2612, bn1090)
noncomputable def q_b479_0 : ev_H := (bn2616 : e2_Q8)
noncomputable def rs_b479 : e2_Rs := [((9, 0, 0), q_b479_0)]
noncomputable def s_b479 : e2_Sm := (197, as_b479, E_b479, f_b479, rs_b479)
noncomputable def S_b479 : List e2_Sm := [s_b318, s_b478]
noncomputable def I_b479 : List e2_In := [(174, 1, e2x_174)]
set_option maxRecDepth 1000000 in
theorem ck_b479 : e2_run (e2_cal S_b479 I_b479 4000 1) (e2_fin rs_b479) e2x_197 (fun _ => false) (fun _ _ _ _ _ => false) 4000 (e2_seek e2x_197 0) (e2_al 3 as_b479) [] E_b479 f_b479 = true := by decide +kernel
set_option maxRecDepth 1000000 in
theorem co_b479 : e2_okSB E_b479.length as_b479 f_b479 rs_b479 = true := by decide +kernel
theorem cs_b479 (hen : en_ok) (l : Launch) : e2_smOk l 5 s_b479 := e2_con0 (H := 3) (n := 1) (C := evd_197) (S := S_b479) (I := I_b479) (fuel := 4000) [] hen ei_197 (e2_fa (cs_b318 hen l) (e2_fa ((cs_b478 hen l).mono (by decide)) e2_fz)) (e2_fa ein_174 e2_fz) (by decide) co_b479 ex2_197 ck_b479
/-! b480 X10_glyphHere -/
def as_b480 : List ev_V := [(2, 83, 0)]
def E_b480 : e2_E := [(2147483648, 2147583648, 0, 0), (2147483648, 2147483656, 1, 0), (2147483648, 2147485249, 2, 0)]
def bn2617 : e2_Q8 := (bn2612, bn1094)
noncomputable def f_b480 : ev_H := (bn2617 : e2_Q8)
noncomputable def q_b480_0 : ev_H := (bn2617 : e2_Q8)
noncomputable def rs_b480 : e2_Rs := [((0, 4294967295, 0), q_b480_0)]
noncomputable def s_b480 : e2_Sm := (190, as_b480, E_b480, f_b480, rs_b480)
noncomputable def S_b480 : List e2_Sm := [s_b269]
noncomputable def I_b480 : List e2_In := []
set_option maxRecDepth 1000000 in
theorem ck_b480 : e2_run (e2_cal S_b480 I_b480 4000 0) (e2_fin rs_b480) e2x_190 (fun _ => false) (fun _ _ _ _ _ => false) 4000 (e2_seek e2x_190 0) (e2_al 1 as_b480) [] E_b480 f_b480 = true := by decide +kernel
set_option maxRecDepth 1000000 in
theorem co_b480 : e2_okSB E_b480.length as_b480 f_b480 rs_b480 = true := by decide +kernel
theorem cs_b480 (hen : en_ok) (l : Launch) : e2_smOk l 2 s_b480 := e2_con0 (H := 1) (n := 0) (C := evd_190) (S := S_b480) (I := I_b480) (fuel := 4000) [] hen ei_190 (e2_fa (cs_b269 hen l) e2_fz) e2_fz (by decide) co_b480 ex2_190 ck_b480
/-! b481 X10_readNever -/
def as_b481 : List ev_V := [(2, 83, 0)]
def E_b481 : e2_E := [(2147483648, 2147583648, 0, 0), (2147483648, 2147483656, 1, 0), (2147483648, 2147485249, 2, 0)]
noncomputable def f_b481 : ev_H := (bn2617 : e2_Q8)
def bn2618 : e2_Q8 := (bn2612, bn1096)
noncomputable def q_b481_0 : ev_H := (bn2618 : e2_Q8)
noncomputable def rs_b481 : e2_Rs := [((9, 0, 0), q_b481_0)]
noncomputable def s_b481 : e2_Sm := (197, as_b481, E_b481, f_b481, rs_b481)
noncomputable def S_b481 : List e2_Sm := [s_b320, s_b480]
noncomputable def I_b481 : List e2_In := [(174, 1, e2x_174)]
set_option maxRecDepth 1000000 in
theorem ck_b481 : e2_run (e2_cal S_b481 I_b481 4000 1) (e2_fin rs_b481) e2x_197 (fun _ => false) (fun _ _ _ _ _ => false) 4000 (e2_seek e2x_197 0) (e2_al 3 as_b481) [] E_b481 f_b481 = true := by decide +kernel
set_option maxRecDepth 1000000 in
theorem co_b481 : e2_okSB E_b481.length as_b481 f_b481 rs_b481 = true := by decide +kernel
theorem cs_b481 (hen : en_ok) (l : Launch) : e2_smOk l 5 s_b481 := e2_con0 (H := 3) (n := 1) (C := evd_197) (S := S_b481) (I := I_b481) (fuel := 4000) [] hen ei_197 (e2_fa (cs_b320 hen l) (e2_fa ((cs_b480 hen l).mono (by decide)) e2_fz)) (e2_fa ein_174 e2_fz) (by decide) co_b481 ex2_197 ck_b481
/-! b482 X10_glyphHere -/
def as_b482 : List ev_V := [(2, 83, 0)]
def E_b482 : e2_E := [(2147483648, 2147583648, 0, 0), (2147483648, 2147483656, 1, 0), (2147483648, 2147485249, 2, 0)]
def bn2619 : e2_Q8 := (bn2612, bn1146)
noncomputable def f_b482 : ev_H := (bn2619 : e2_Q8)
noncomputable def q_b482_0 : ev_H := (bn2619 : e2_Q8)
noncomputable def rs_b482 : e2_Rs := [((0, 4294967295, 0), q_b482_0)]
noncomputable def s_b482 : e2_Sm := (190, as_b482, E_b482, f_b482, rs_b482)
noncomputable def S_b482 : List e2_Sm := [s_b276]
noncomputable def I_b482 : List e2_In := []
set_option maxRecDepth 1000000 in
theorem ck_b482 : e2_run (e2_cal S_b482 I_b482 4000 0) (e2_fin rs_b482) e2x_190 (fun _ => false) (fun _ _ _ _ _ => false) 4000 (e2_seek e2x_190 0) (e2_al 1 as_b482) [] E_b482 f_b482 = true := by decide +kernel
set_option maxRecDepth 1000000 in
theorem co_b482 : e2_okSB E_b482.length as_b482 f_b482 rs_b482 = true := by decide +kernel
theorem cs_b482 (hen : en_ok) (l : Launch) : e2_smOk l 2 s_b482 := e2_con0 (H := 1) (n := 0) (C := evd_190) (S := S_b482) (I := I_b482) (fuel := 4000) [] hen ei_190 (e2_fa (cs_b276 hen l) e2_fz) e2_fz (by decide) co_b482 ex2_190 ck_b482
/-! b483 X10_readNever -/
def as_b483 : List ev_V := [(2, 83, 0)]
def E_b483 : e2_E := [(2147483648, 2147583648, 0, 0), (2147483648, 2147483656, 1, 0), (2147483648, 2147485249, 2, 0)]
noncomputable def f_b483 : ev_H := (bn2619 : e2_Q8)
def bn2620 : e2_Q8 := (bn2612, bn1082)
noncomputable def q_b483_0 : ev_H := (bn2620 : e2_Q8)
noncomputable def rs_b483 : e2_Rs := [((9, 0, 0), q_b483_0)]
noncomputable def s_b483 : e2_Sm := (197, as_b483, E_b483, f_b483, rs_b483)
noncomputable def S_b483 : List e2_Sm := [s_b288, s_b482]
noncomputable def I_b483 : List e2_In := [(174, 1, e2x_174)]
set_option maxRecDepth 1000000 in
theorem ck_b483 : e2_run (e2_cal S_b483 I_b483 4000 1) (e2_fin rs_b483) e2x_197 (fun _ => false) (fun _ _ _ _ _ => false) 4000 (e2_seek e2x_197 0) (e2_al 3 as_b483) [] E_b483 f_b483 = true := by decide +kernel
set_option maxRecDepth 1000000 in
theorem co_b483 : e2_okSB E_b483.length as_b483 f_b483 rs_b483 = true := by decide +kernel
theorem cs_b483 (hen : en_ok) (l : Launch) : e2_smOk l 5 s_b483 := e2_con0 (H := 3) (n := 1) (C := evd_197) (S := S_b483) (I := I_b483) (fuel := 4000) [] hen ei_197 (e2_fa (cs_b288 hen l) (e2_fa ((cs_b482 hen l).mono (by decide)) e2_fz)) (e2_fa ein_174 e2_fz) (by decide) co_b483 ex2_197 ck_b483
/-! b484 X10_glyphHere -/
def as_b484 : List ev_V := [(2, 83, 0)]
def E_b484 : e2_E := [(2147483648, 2147583648, 0, 0), (2147483648, 2147483656, 1, 0), (2147483648, 2147485249, 2, 0)]
def bn2621 : e2_Q8 := (bn2612, bn1152)
noncomputable def f_b484 : ev_H := (bn2621 : e2_Q8)
noncomputable def q_b484_0 : ev_H := (bn2621 : e2_Q8)
noncomputable def rs_b484 : e2_Rs := [((0, 4294967295, 0), q_b484_0)]
noncomputable def s_b484 : e2_Sm := (190, as_b484, E_b484, f_b484, rs_b484)
noncomputable def S_b484 : List e2_Sm := [s_b323]
noncomputable def I_b484 : List e2_In := []
set_option maxRecDepth 1000000 in
theorem ck_b484 : e2_run (e2_cal S_b484 I_b484 4000 0) (e2_fin rs_b484) e2x_190 (fun _ => false) (fun _ _ _ _ _ => false) 4000 (e2_seek e2x_190 0) (e2_al 1 as_b484) [] E_b484 f_b484 = true := by decide +kernel
set_option maxRecDepth 1000000 in
theorem co_b484 : e2_okSB E_b484.length as_b484 f_b484 rs_b484 = true := by decide +kernel
theorem cs_b484 (hen : en_ok) (l : Launch) : e2_smOk l 2 s_b484 := e2_con0 (H := 1) (n := 0) (C := evd_190) (S := S_b484) (I := I_b484) (fuel := 4000) [] hen ei_190 (e2_fa (cs_b323 hen l) e2_fz) e2_fz (by decide) co_b484 ex2_190 ck_b484
/-! b485 X10_glyphHere -/
def as_b485 : List ev_V := [(2, 83, 0)]
def E_b485 : e2_E := [(2147483648, 2147583648, 0, 0), (2147483648, 2147483656, 1, 0), (2147483648, 2147485249, 2, 0)]
def bn2622 : e2_Q8 := (bn2612, bn1198)
noncomputable def f_b485 : ev_H := (bn2622 : e2_Q8)
noncomputable def q_b485_0 : ev_H := (bn2622 : e2_Q8)
noncomputable def rs_b485 : e2_Rs := [((0, 4294967295, 0), q_b485_0)]
noncomputable def s_b485 : e2_Sm := (190, as_b485, E_b485, f_b485, rs_b485)
noncomputable def S_b485 : List e2_Sm := [s_b325]
noncomputable def I_b485 : List e2_In := []
set_option maxRecDepth 1000000 in
theorem ck_b485 : e2_run (e2_cal S_b485 I_b485 4000 0) (e2_fin rs_b485) e2x_190 (fun _ => false) (fun _ _ _ _ _ => false) 4000 (e2_seek e2x_190 0) (e2_al 1 as_b485) [] E_b485 f_b485 = true := by decide +kernel
set_option maxRecDepth 1000000 in
theorem co_b485 : e2_okSB E_b485.length as_b485 f_b485 rs_b485 = true := by decide +kernel
theorem cs_b485 (hen : en_ok) (l : Launch) : e2_smOk l 2 s_b485 := e2_con0 (H := 1) (n := 0) (C := evd_190) (S := S_b485) (I := I_b485) (fuel := 4000) [] hen ei_190 (e2_fa (cs_b325 hen l) e2_fz) e2_fz (by decide) co_b485 ex2_190 ck_b485
/-! b486 X10_glyphHere -/
def as_b486 : List ev_V := [(2, 83, 0)]
def E_b486 : e2_E := [(2147483648, 2147583648, 0, 0), (2147483648, 2147483656, 1, 0), (2147483648, 2147485249, 2, 0)]
def bn2623 : e2_Q7 := (bn2611, bn1463)
def bn2624 : e2_Q8 := (bn2623, bn1150)
noncomputable def f_b486 : ev_H := (bn2624 : e2_Q8)
noncomputable def q_b486_0 : ev_H := (bn2624 : e2_Q8)
noncomputable def rs_b486 : e2_Rs := [((11, 2147483647, 2147483655), q_b486_0)]
noncomputable def s_b486 : e2_Sm := (190, as_b486, E_b486, f_b486, rs_b486)
noncomputable def S_b486 : List e2_Sm := [s_b283]
noncomputable def I_b486 : List e2_In := []
set_option maxRecDepth 1000000 in
theorem ck_b486 : e2_run (e2_cal S_b486 I_b486 4000 0) (e2_fin rs_b486) e2x_190 (fun _ => false) (fun _ _ _ _ _ => false) 4000 (e2_seek e2x_190 0) (e2_al 1 as_b486) [] E_b486 f_b486 = true := by decide +kernel
set_option maxRecDepth 1000000 in
theorem co_b486 : e2_okSB E_b486.length as_b486 f_b486 rs_b486 = true := by decide +kernel
theorem cs_b486 (hen : en_ok) (l : Launch) : e2_smOk l 2 s_b486 := e2_con0 (H := 1) (n := 0) (C := evd_190) (S := S_b486) (I := I_b486) (fuel := 4000) [] hen ei_190 (e2_fa (cs_b283 hen l) e2_fz) e2_fz (by decide) co_b486 ex2_190 ck_b486
/-! b487 X10_readNever -/
def as_b487 : List ev_V := [(2, 83, 0)]
def E_b487 : e2_E := [(2147483648, 2147583648, 0, 0), (2147483648, 2147483656, 1, 0), (2147483648, 2147485249, 2, 0)]
def bn2625 : e2_Q6 := (bn2610, bn1584)
def bn2626 : e2_Q7 := (bn2625, bn1463)
def bn2627 : e2_Q8 := (bn2626, bn1588)
noncomputable def f_b487 : ev_H := (bn2627 : e2_Q8)
def bn2628 : e2_Q8 := (bn2626, bn1590)
noncomputable def q_b487_0 : ev_H := (bn2628 : e2_Q8)
def bn2629 : e2_Q8 := (bn2626, bn1592)
noncomputable def q_b487_1 : ev_H := (bn2629 : e2_Q8)
def bn2630 : e2_Q8 := (bn2626, bn1594)
noncomputable def q_b487_2 : ev_H := (bn2630 : e2_Q8)
def bn2631 : e2_Q8 := (bn2626, bn1596)
noncomputable def q_b487_3 : ev_H := (bn2631 : e2_Q8)
def bn2632 : e2_Q8 := (bn2626, bn1598)
noncomputable def q_b487_4 : ev_H := (bn2632 : e2_Q8)
def bn2633 : e2_Q8 := (bn2626, bn1600)
noncomputable def q_b487_5 : ev_H := (bn2633 : e2_Q8)
def bn2634 : e2_Q8 := (bn2626, bn1602)
noncomputable def q_b487_6 : ev_H := (bn2634 : e2_Q8)
def bn2635 : e2_Q8 := (bn2626, bn1604)
noncomputable def q_b487_7 : ev_H := (bn2635 : e2_Q8)
def bn2636 : e2_Q8 := (bn2626, bn1606)
noncomputable def q_b487_8 : ev_H := (bn2636 : e2_Q8)
def bn2637 : e2_Q8 := (bn2626, bn1608)
noncomputable def q_b487_9 : ev_H := (bn2637 : e2_Q8)
noncomputable def rs_b487 : e2_Rs := [((9, 0, 0), q_b487_0), ((9, 0, 0), q_b487_1), ((9, 0, 0), q_b487_2), ((9, 0, 0), q_b487_3), ((9, 0, 0), q_b487_4), ((9, 0, 0), q_b487_5), ((9, 0, 0), q_b487_6), ((9, 0, 0), q_b487_7), ((9, 0, 0), q_b487_8), ((9, 0, 0), q_b487_9)]
noncomputable def s_b487 : e2_Sm := (197, as_b487, E_b487, f_b487, rs_b487)
noncomputable def S_b487 : List e2_Sm := [s_b285, s_b286, s_b287, s_b288, s_b327, s_b328, s_b329, s_b330, s_b476, s_b482, s_b484, s_b485, s_b486]
noncomputable def I_b487 : List e2_In := [(173, 3, e2x_173), (174, 1, e2x_174)]
set_option maxRecDepth 1000000 in
theorem ck_b487 : e2_run (e2_cal S_b487 I_b487 4000 1) (e2_fin rs_b487) e2x_197 (fun _ => false) (fun _ _ _ _ _ => false) 4000 (e2_seek e2x_197 0) (e2_al 3 as_b487) [] E_b487 f_b487 = true := by decide +kernel
set_option maxRecDepth 1000000 in
theorem co_b487 : e2_okSB E_b487.length as_b487 f_b487 rs_b487 = true := by decide +kernel
theorem cs_b487 (hen : en_ok) (l : Launch) : e2_smOk l 8 s_b487 := e2_con0 (H := 6) (n := 1) (C := evd_197) (S := S_b487) (I := I_b487) (fuel := 4000) [] hen ei_197 (e2_fa ((cs_b285 hen l).mono (by decide)) (e2_fa ((cs_b286 hen l).mono (by decide)) (e2_fa ((cs_b287 hen l).mono (by decide)) (e2_fa ((cs_b288 hen l).mono (by decide)) (e2_fa ((cs_b327 hen l).mono (by decide)) (e2_fa (cs_b328 hen l) (e2_fa (cs_b329 hen l) (e2_fa ((cs_b330 hen l).mono (by decide)) (e2_fa ((cs_b476 hen l).mono (by decide)) (e2_fa ((cs_b482 hen l).mono (by decide)) (e2_fa ((cs_b484 hen l).mono (by decide)) (e2_fa ((cs_b485 hen l).mono (by decide)) (e2_fa ((cs_b486 hen l).mono (by decide)) e2_fz))))))))))))) (e2_fa ein_173 (e2_fa ein_174 e2_fz)) (by decide) co_b487 ex2_197 ck_b487
/-! b488 X10_readLine -/
def as_b488 : List ev_V := [(2, 83, 0)]
def E_b488 : e2_E := [(2147483648, 2147583648, 0, 0), (2147483648, 2147483656, 1, 0), (2147483648, 2147485249, 2, 0)]
def bn2638 : e2_Q5 := (bn14, bn2587)
def bn2639 : e2_Q6 := (bn2638, bn1717)
def bn2640 : e2_Q5 := (bn77, bn1719)
def bn2641 : e2_Q6 := (bn2640, bn1723)
def bn2642 : e2_Q7 := (bn2639, bn2641)
def bn2643 : e2_Q5 := (bn141, bn1726)
def bn2644 : e2_Q6 := (bn2643, bn1729)
def bn2645 : e2_Q5 := (bn903, bn1732)
def bn2646 : e2_Q6 := (bn2645, bn1734)
def bn2647 : e2_Q7 := (bn2644, bn2646)
def bn2648 : e2_Q8 := (bn2642, bn2647)
noncomputable def f_b488 : ev_H := (bn2648 : e2_Q8)
def bn2649 : e2_Q4 := (bn195, bn1740)
def bn2650 : e2_Q5 := (bn2649, bn1732)
def bn2651 : e2_Q6 := (bn2650, bn1734)
def bn2652 : e2_Q7 := (bn2644, bn2651)
def bn2653 : e2_Q8 := (bn2642, bn2652)
noncomputable def q_b488_0 : ev_H := (bn2653 : e2_Q8)
def bn2654 : e2_Q5 := (bn1109, bn1732)
def bn2655 : e2_Q6 := (bn2654, bn1734)
def bn2656 : e2_Q7 := (bn2644, bn2655)
def bn2657 : e2_Q8 := (bn2642, bn2656)
noncomputable def q_b488_1 : ev_H := (bn2657 : e2_Q8)
def bn2658 : e2_Q5 := (bn373, bn1732)
def bn2659 : e2_Q6 := (bn2658, bn1734)
def bn2660 : e2_Q7 := (bn2644, bn2659)
def bn2661 : e2_Q8 := (bn2642, bn2660)
noncomputable def q_b488_2 : ev_H := (bn2661 : e2_Q8)
def bn2662 : e2_Q5 := (bn467, bn1732)
def bn2663 : e2_Q6 := (bn2662, bn1734)
def bn2664 : e2_Q7 := (bn2644, bn2663)
def bn2665 : e2_Q8 := (bn2642, bn2664)
noncomputable def q_b488_3 : ev_H := (bn2665 : e2_Q8)
def bn2666 : e2_Q5 := (bn999, bn1732)
def bn2667 : e2_Q6 := (bn2666, bn1734)
def bn2668 : e2_Q7 := (bn2644, bn2667)
def bn2669 : e2_Q8 := (bn2642, bn2668)
noncomputable def q_b488_4 : ev_H := (bn2669 : e2_Q8)
def bn2670 : e2_Q5 := (bn1007, bn1732)
def bn2671 : e2_Q6 := (bn2670, bn1734)
def bn2672 : e2_Q7 := (bn2644, bn2671)
def bn2673 : e2_Q8 := (bn2642, bn2672)
noncomputable def q_b488_5 : ev_H := (bn2673 : e2_Q8)
def bn2674 : e2_Q5 := (bn1015, bn1732)
def bn2675 : e2_Q6 := (bn2674, bn1734)
def bn2676 : e2_Q7 := (bn2644, bn2675)
def bn2677 : e2_Q8 := (bn2642, bn2676)
noncomputable def q_b488_6 : ev_H := (bn2677 : e2_Q8)
def bn2678 : e2_Q5 := (bn935, bn1732)
def bn2679 : e2_Q6 := (bn2678, bn1734)
def bn2680 : e2_Q7 := (bn2644, bn2679)
def bn2681 : e2_Q8 := (bn2642, bn2680)
noncomputable def q_b488_7 : ev_H := (bn2681 : e2_Q8)
def bn2682 : e2_Q5 := (bn1023, bn1732)
def bn2683 : e2_Q6 := (bn2682, bn1734)
def bn2684 : e2_Q7 := (bn2644, bn2683)
def bn2685 : e2_Q8 := (bn2642, bn2684)
noncomputable def q_b488_8 : ev_H := (bn2685 : e2_Q8)
def bn2686 : e2_Q5 := (bn381, bn1732)
def bn2687 : e2_Q6 := (bn2686, bn1734)
def bn2688 : e2_Q7 := (bn2644, bn2687)
def bn2689 : e2_Q8 := (bn2642, bn2688)
noncomputable def q_b488_9 : ev_H := (bn2689 : e2_Q8)
def bn2690 : e2_Q5 := (bn305, bn1732)
def bn2691 : e2_Q6 := (bn2690, bn1734)
def bn2692 : e2_Q7 := (bn2644, bn2691)
def bn2693 : e2_Q8 := (bn2642, bn2692)
noncomputable def q_b488_10 : ev_H := (bn2693 : e2_Q8)
noncomputable def rs_b488 : e2_Rs := [((9, 0, 0), q_b488_0), ((9, 0, 0), q_b488_1), ((9, 0, 0), q_b488_2), ((9, 0, 0), q_b488_3), ((9, 0, 0), q_b488_4), ((9, 0, 0), q_b488_5), ((9, 0, 0), q_b488_6), ((9, 0, 0), q_b488_7), ((9, 0, 0), q_b488_8), ((9, 0, 0), q_b488_9), ((9, 0, 0), q_b488_10)]
noncomputable def s_b488 : e2_Sm := (187, as_b488, E_b488, f_b488, rs_b488)
noncomputable def S_b488 : List e2_Sm := [s_b173, s_b178, s_b179, s_b180, s_b181, s_b182, s_b183, s_b184, s_b185, s_b186, s_b187, s_b188, s_b189, s_b190, s_b191, s_b193, s_b194, s_b195, s_b196, s_b197, s_b198, s_b199, s_b217, s_b218, s_b219, s_b220, s_b221, s_b249, s_b250, s_b251, s_b252, s_b253, s_b332, s_b333, s_b334, s_b335, s_b336, s_b338, s_b341, s_b344, s_b346, s_b348, s_b477, s_b479, s_b481, s_b483, s_b487]
noncomputable def I_b488 : List e2_In := [(170, 2, e2x_170), (173, 3, e2x_173), (174, 1, e2x_174), (178, 2, e2x_178), (179, 3, e2x_179), (180, 1, e2x_180), (186, 1, e2x_186)]
set_option maxRecDepth 1000000 in
theorem ck_b488 : e2_run (e2_cal S_b488 I_b488 4000 2) (e2_fin rs_b488) e2x_187 (fun _ => false) (fun _ _ _ _ _ => false) 4000 (e2_seek e2x_187 0) (e2_al 3 as_b488) [] E_b488 f_b488 = true := by decide +kernel
set_option maxRecDepth 1000000 in
theorem co_b488 : e2_okSB E_b488.length as_b488 f_b488 rs_b488 = true := by decide +kernel
theorem cs_b488 (hen : en_ok) (l : Launch) (hh : e2_hand_b l) : e2_smOk l 64 s_b488 := e2_con0 (H := 61) (n := 2) (C := evd_187) (S := S_b488) (I := I_b488) (fuel := 4000) [] hen ei_187 (e2_fa ((cs_b173 hen l).mono (by decide)) (e2_fa ((cs_b178 hen l).mono (by decide)) (e2_fa ((cs_b179 hen l).mono (by decide)) (e2_fa ((cs_b180 hen l).mono (by decide)) (e2_fa ((cs_b181 hen l).mono (by decide)) (e2_fa ((cs_b182 hen l).mono (by decide)) (e2_fa ((cs_b183 hen l).mono (by decide)) (e2_fa ((cs_b184 hen l).mono (by decide)) (e2_fa ((cs_b185 hen l).mono (by decide)) (e2_fa ((cs_b186 hen l).mono (by decide)) (e2_fa ((cs_b187 hen l).mono (by decide)) (e2_fa ((cs_b188 hen l).mono (by decide)) (e2_fa ((cs_b189 hen l).mono (by decide)) (e2_fa ((cs_b190 hen l).mono (by decide)) (e2_fa ((cs_b191 hen l).mono (by decide)) (e2_fa ((cs_b193 hen l).mono (by decide)) (e2_fa ((cs_b194 hen l).mono (by decide)) (e2_fa ((cs_b195 hen l).mono (by decide)) (e2_fa ((cs_b196 hen l).mono (by decide)) (e2_fa ((cs_b197 hen l).mono (by decide)) (e2_fa ((cs_b198 hen l).mono (by decide)) (e2_fa ((cs_b199 hen l).mono (by decide)) (e2_fa ((cs_b217 hen l).mono (by decide)) (e2_fa ((cs_b218 hen l).mono (by decide)) (e2_fa ((cs_b219 hen l).mono (by decide)) (e2_fa ((cs_b220 hen l).mono (by decide)) (e2_fa ((cs_b221 hen l).mono (by decide)) (e2_fa ((cs_b249 hen l).mono (by decide)) (e2_fa ((cs_b250 hen l).mono (by decide)) (e2_fa ((cs_b251 hen l).mono (by decide)) (e2_fa ((cs_b252 hen l).mono (by decide)) (e2_fa ((cs_b253 hen l).mono (by decide)) (e2_fa (cs_b332 hen l hh) (e2_fa (cs_b333 hen l hh) (e2_fa (cs_b334 hen l hh) (e2_fa (cs_b335 hen l hh) (e2_fa (cs_b336 hen l hh) (e2_fa ((cs_b338 hen l).mono (by decide)) (e2_fa ((cs_b341 hen l).mono (by decide)) (e2_fa ((cs_b344 hen l).mono (by decide)) (e2_fa ((cs_b346 hen l).mono (by decide)) (e2_fa ((cs_b348 hen l).mono (by decide)) (e2_fa ((cs_b477 hen l).mono (by decide)) (e2_fa ((cs_b479 hen l).mono (by decide)) (e2_fa ((cs_b481 hen l).mono (by decide)) (e2_fa ((cs_b483 hen l).mono (by decide)) (e2_fa ((cs_b487 hen l).mono (by decide)) e2_fz))))))))))))))))))))))))))))))))))))))))))))))) (e2_fa ein_170 (e2_fa ein_173 (e2_fa ein_174 (e2_fa ein_178 (e2_fa ein_179 (e2_fa ein_180 (e2_fa ein_186 e2_fz))))))) (by decide) co_b488 ex2_187 ck_b488
/-! b489 X10_meadow -/
def as_b489 : List ev_V := [(2, 83, 0)]
def E_b489 : e2_E := [(2147483648, 2147583648, 0, 0), (2147483648, 2147483656, 1, 0)]
def bn2694 : e2_Q4 := (bn328, bn698)
def bn2695 : e2_Q5 := (bn2694, bn751)
def bn2696 : e2_Q3 := (bn819, bn753)
def bc249 : ev_C := (55, [(0, 1620, 0), (11, 2147483520, 2147483775)])
def bn2697 : e2_Q1 := (bc249, bc3)
def bn2698 : e2_Q2 := (bn38, bn2697)
def bn2699 : e2_Q3 := (bn2698, bn43)
def bn2700 : e2_Q4 := (bn2696, bn2699)
def bn2701 : e2_Q5 := (bn2700, bn60)
def bn2702 : e2_Q6 := (bn2695, bn2701)
def bn2703 : e2_Q7 := (bn2702, bn1724)
def bn2704 : e2_Q4 := (bn1402, bn721)
def bn2705 : e2_Q5 := (bn2704, bn1732)
def bn2706 : e2_Q6 := (bn2705, bn1734)
def bn2707 : e2_Q7 := (bn1730, bn2706)
def bn2708 : e2_Q8 := (bn2703, bn2707)
noncomputable def f_b489 : ev_H := (bn2708 : e2_Q8)
def bn2709 : e2_Q5 := (bn2694, bn806)
def bn2710 : e2_Q6 := (bn2709, bn2701)
def bn2711 : e2_Q7 := (bn2710, bn1724)
def bn2712 : e2_Q4 := (bn1402, bn828)
def bn2713 : e2_Q5 := (bn2712, bn1732)
def bn2714 : e2_Q6 := (bn2713, bn1734)
def bn2715 : e2_Q7 := (bn1730, bn2714)
def bn2716 : e2_Q8 := (bn2711, bn2715)
noncomputable def q_b489_0 : ev_H := (bn2716 : e2_Q8)
def bn2717 : e2_Q5 := (bn2694, bn1787)
def bn2718 : e2_Q6 := (bn2717, bn2701)
def bn2719 : e2_Q7 := (bn2718, bn1724)
def bn2720 : e2_Q7 := (bn1796, bn2714)
def bn2721 : e2_Q8 := (bn2719, bn2720)
noncomputable def q_b489_1 : ev_H := (bn2721 : e2_Q8)
def bn2722 : e2_Q5 := (bn2694, bn1903)
def bn2723 : e2_Q6 := (bn2722, bn2701)
def bn2724 : e2_Q7 := (bn2723, bn1724)
def bn2725 : e2_Q7 := (bn1912, bn2714)
def bn2726 : e2_Q8 := (bn2724, bn2725)
noncomputable def q_b489_2 : ev_H := (bn2726 : e2_Q8)
def bn2727 : e2_Q5 := (bn2694, bn2017)
def bn2728 : e2_Q6 := (bn2727, bn2701)
def bn2729 : e2_Q7 := (bn2728, bn1724)
def bn2730 : e2_Q7 := (bn2026, bn2714)
def bn2731 : e2_Q8 := (bn2729, bn2730)
noncomputable def q_b489_3 : ev_H := (bn2731 : e2_Q8)
def bn2732 : e2_Q5 := (bn2694, bn2131)
def bn2733 : e2_Q6 := (bn2732, bn2701)
def bn2734 : e2_Q7 := (bn2733, bn1724)
def bn2735 : e2_Q7 := (bn2140, bn2714)
def bn2736 : e2_Q8 := (bn2734, bn2735)
noncomputable def q_b489_4 : ev_H := (bn2736 : e2_Q8)
def bn2737 : e2_Q5 := (bn2694, bn2245)
def bn2738 : e2_Q6 := (bn2737, bn2701)
def bn2739 : e2_Q7 := (bn2738, bn1724)
def bn2740 : e2_Q7 := (bn2254, bn2714)
def bn2741 : e2_Q8 := (bn2739, bn2740)
noncomputable def q_b489_5 : ev_H := (bn2741 : e2_Q8)
def bn2742 : e2_Q5 := (bn2694, bn2359)
def bn2743 : e2_Q6 := (bn2742, bn2701)
def bn2744 : e2_Q7 := (bn2743, bn1724)
def bn2745 : e2_Q7 := (bn2368, bn2714)
def bn2746 : e2_Q8 := (bn2744, bn2745)
noncomputable def q_b489_6 : ev_H := (bn2746 : e2_Q8)
def bn2747 : e2_Q5 := (bn2694, bn2473)
def bn2748 : e2_Q6 := (bn2747, bn2701)
def bn2749 : e2_Q7 := (bn2748, bn1724)
def bn2750 : e2_Q7 := (bn2482, bn2714)
def bn2751 : e2_Q8 := (bn2749, bn2750)
noncomputable def q_b489_7 : ev_H := (bn2751 : e2_Q8)
def bn2752 : e2_Q5 := (bn2694, bn2587)
def bn2753 : e2_Q6 := (bn2752, bn2701)
def bn2754 : e2_Q7 := (bn2753, bn1724)
def bn2755 : e2_Q7 := (bn2596, bn2714)
def bn2756 : e2_Q8 := (bn2754, bn2755)
noncomputable def q_b489_8 : ev_H := (bn2756 : e2_Q8)
def bn2757 : e2_Q8 := (bn2703, bn1785)
noncomputable def q_b489_9 : ev_H := (bn2757 : e2_Q8)
noncomputable def rs_b489 : e2_Rs := [((0, 0, 0), q_b489_0), ((0, 1, 0), q_b489_1), ((0, 2, 0), q_b489_2), ((0, 3, 0), q_b489_3), ((0, 4, 0), q_b489_4), ((0, 5, 0), q_b489_5), ((0, 6, 0), q_b489_6), ((0, 7, 0), q_b489_7), ((0, 8, 0), q_b489_8), ((0, 4294967295, 0), q_b489_9)]
noncomputable def s_b489 : e2_Sm := (185, as_b489, E_b489, f_b489, rs_b489)
noncomputable def S_b489 : List e2_Sm := [s_b168, s_b170, s_b172, s_b246, s_b247, s_b248, s_b349, s_b367, s_b385, s_b403, s_b421, s_b439, s_b457, s_b475, s_b488]
noncomputable def I_b489 : List e2_In := [(174, 1, e2x_174)]
set_option maxRecDepth 1000000 in
theorem co_b489 : e2_okSB E_b489.length as_b489 f_b489 rs_b489 = true := by decide +kernel
def bn2758 : e2_Q5 := (bn1403, bn1732)
def bn2759 : e2_Q6 := (bn2758, bn1734)
def bn2760 : e2_Q7 := (bn1730, bn2759)
def bn2761 : e2_Q8 := (bn2711, bn2760)
noncomputable def h_b489_1 : ev_H := (bn2761 : e2_Q8)
noncomputable def cn_b489_1 : List e2_Cu := [([(2, 83, 0), (11, 2147483648, 2147485248)], [(2147483648, 2147583648, 0, 0), (2147483648, 2147483656, 1, 0)], h_b489_1)]
set_option maxRecDepth 1000000 in
theorem ck_b489_m1 : e2_cutsB (e2_cal S_b489 I_b489 4000 1) (e2_fin rs_b489) e2x_185 74 4000 cn_b489_1 = true := by decide +kernel
def bn2762 : e2_Q7 := (bn1796, bn2759)
def bn2763 : e2_Q8 := (bn2719, bn2762)
noncomputable def h_b489_2 : ev_H := (bn2763 : e2_Q8)
noncomputable def cn_b489_2 : List e2_Cu := [([(2, 83, 0), (11, 2147483648, 2147485248)], [(2147483648, 2147583648, 0, 0), (2147483648, 2147483656, 1, 0)], h_b489_2)]
set_option maxRecDepth 1000000 in
theorem ck_b489_m2 : e2_cutsB (e2_cal S_b489 I_b489 4000 1) (e2_fin rs_b489) e2x_185 74 4000 cn_b489_2 = true := by decide +kernel
def bn2764 : e2_Q7 := (bn1912, bn2759)
def bn2765 : e2_Q8 := (bn2724, bn2764)
noncomputable def h_b489_3 : ev_H := (bn2765 : e2_Q8)
noncomputable def cn_b489_3 : List e2_Cu := [([(2, 83, 0), (11, 2147483648, 2147485248)], [(2147483648, 2147583648, 0, 0), (2147483648, 2147483656, 1, 0)], h_b489_3)]
set_option maxRecDepth 1000000 in
theorem ck_b489_m3 : e2_cutsB (e2_cal S_b489 I_b489 4000 1) (e2_fin rs_b489) e2x_185 74 4000 cn_b489_3 = true := by decide +kernel
def bn2766 : e2_Q7 := (bn2026, bn2759)
def bn2767 : e2_Q8 := (bn2729, bn2766)
noncomputable def h_b489_4 : ev_H := (bn2767 : e2_Q8)
noncomputable def cn_b489_4 : List e2_Cu := [([(2, 83, 0), (11, 2147483648, 2147485248)], [(2147483648, 2147583648, 0, 0), (2147483648, 2147483656, 1, 0)], h_b489_4)]
set_option maxRecDepth 1000000 in
theorem ck_b489_m4 : e2_cutsB (e2_cal S_b489 I_b489 4000 1) (e2_fin rs_b489) e2x_185 74 4000 cn_b489_4 = true := by decide +kernel
def bn2768 : e2_Q7 := (bn2140, bn2759)
def bn2769 : e2_Q8 := (bn2734, bn2768)
noncomputable def h_b489_5 : ev_H := (bn2769 : e2_Q8)
noncomputable def cn_b489_5 : List e2_Cu := [([(2, 83, 0), (11, 2147483648, 2147485248)], [(2147483648, 2147583648, 0, 0), (2147483648, 2147483656, 1, 0)], h_b489_5)]
set_option maxRecDepth 1000000 in
theorem ck_b489_m5 : e2_cutsB (e2_cal S_b489 I_b489 4000 1) (e2_fin rs_b489) e2x_185 74 4000 cn_b489_5 = true := by decide +kernel
def bn2770 : e2_Q7 := (bn2254, bn2759)
def bn2771 : e2_Q8 := (bn2739, bn2770)
noncomputable def h_b489_6 : ev_H := (bn2771 : e2_Q8)
noncomputable def cn_b489_6 : List e2_Cu := [([(2, 83, 0), (11, 2147483648, 2147485248)], [(2147483648, 2147583648, 0, 0), (2147483648, 2147483656, 1, 0)], h_b489_6)]
set_option maxRecDepth 1000000 in
theorem ck_b489_m6 : e2_cutsB (e2_cal S_b489 I_b489 4000 1) (e2_fin rs_b489) e2x_185 74 4000 cn_b489_6 = true := by decide +kernel
def bn2772 : e2_Q7 := (bn2368, bn2759)
def bn2773 : e2_Q8 := (bn2744, bn2772)
noncomputable def h_b489_7 : ev_H := (bn2773 : e2_Q8)
noncomputable def cn_b489_7 : List e2_Cu := [([(2, 83, 0), (11, 2147483648, 2147485248)], [(2147483648, 2147583648, 0, 0), (2147483648, 2147483656, 1, 0)], h_b489_7)]
set_option maxRecDepth 1000000 in
theorem ck_b489_m7 : e2_cutsB (e2_cal S_b489 I_b489 4000 1) (e2_fin rs_b489) e2x_185 74 4000 cn_b489_7 = true := by decide +kernel
def bn2774 : e2_Q7 := (bn2482, bn2759)
def bn2775 : e2_Q8 := (bn2749, bn2774)
noncomputable def h_b489_8 : ev_H := (bn2775 : e2_Q8)
noncomputable def cn_b489_8 : List e2_Cu := [([(2, 83, 0), (11, 2147483648, 2147485248)], [(2147483648, 2147583648, 0, 0), (2147483648, 2147483656, 1, 0)], h_b489_8)]
set_option maxRecDepth 1000000 in
theorem ck_b489_m8 : e2_cutsB (e2_cal S_b489 I_b489 4000 1) (e2_fin rs_b489) e2x_185 74 4000 cn_b489_8 = true := by decide +kernel
def bn2776 : e2_Q7 := (bn2596, bn2759)
def bn2777 : e2_Q8 := (bn2754, bn2776)
noncomputable def h_b489_9 : ev_H := (bn2777 : e2_Q8)
noncomputable def cn_b489_9 : List e2_Cu := [([(2, 83, 0), (11, 2147483648, 2147485248)], [(2147483648, 2147583648, 0, 0), (2147483648, 2147483656, 1, 0)], h_b489_9)]
set_option maxRecDepth 1000000 in
theorem ck_b489_m9 : e2_cutsB (e2_cal S_b489 I_b489 4000 1) (e2_fin rs_b489) e2x_185 74 4000 cn_b489_9 = true := by decide +kernel
def bn2778 : e2_Q8 := (bn2711, bn1753)
noncomputable def h_b489_10 : ev_H := (bn2778 : e2_Q8)
noncomputable def cn_b489_10 : List e2_Cu := [([(2, 83, 0), (11, 2147483648, 2147485248)], [(2147483648, 2147583648, 0, 0), (2147483648, 2147483656, 1, 0)], h_b489_10)]
set_option maxRecDepth 1000000 in
theorem ck_b489_m10 : e2_cutsB (e2_cal S_b489 I_b489 4000 1) (e2_fin rs_b489) e2x_185 74 4000 cn_b489_10 = true := by decide +kernel
def bn2779 : e2_Q8 := (bn2719, bn1753)
noncomputable def h_b489_11 : ev_H := (bn2779 : e2_Q8)
noncomputable def cn_b489_11 : List e2_Cu := [([(2, 83, 0), (11, 2147483648, 2147485248)], [(2147483648, 2147583648, 0, 0), (2147483648, 2147483656, 1, 0)], h_b489_11)]
set_option maxRecDepth 1000000 in
theorem ck_b489_m11 : e2_cutsB (e2_cal S_b489 I_b489 4000 1) (e2_fin rs_b489) e2x_185 74 4000 cn_b489_11 = true := by decide +kernel
def bn2780 : e2_Q8 := (bn2724, bn1895)
noncomputable def h_b489_12 : ev_H := (bn2780 : e2_Q8)
noncomputable def cn_b489_12 : List e2_Cu := [([(2, 83, 0), (11, 2147483648, 2147485248)], [(2147483648, 2147583648, 0, 0), (2147483648, 2147483656, 1, 0)], h_b489_12)]
set_option maxRecDepth 1000000 in
theorem ck_b489_m12 : e2_cutsB (e2_cal S_b489 I_b489 4000 1) (e2_fin rs_b489) e2x_185 74 4000 cn_b489_12 = true := by decide +kernel
def bn2781 : e2_Q8 := (bn2729, bn2009)
noncomputable def h_b489_13 : ev_H := (bn2781 : e2_Q8)
noncomputable def cn_b489_13 : List e2_Cu := [([(2, 83, 0), (11, 2147483648, 2147485248)], [(2147483648, 2147583648, 0, 0), (2147483648, 2147483656, 1, 0)], h_b489_13)]
set_option maxRecDepth 1000000 in
theorem ck_b489_m13 : e2_cutsB (e2_cal S_b489 I_b489 4000 1) (e2_fin rs_b489) e2x_185 74 4000 cn_b489_13 = true := by decide +kernel
def bn2782 : e2_Q8 := (bn2734, bn2123)
noncomputable def h_b489_14 : ev_H := (bn2782 : e2_Q8)
noncomputable def cn_b489_14 : List e2_Cu := [([(2, 83, 0), (11, 2147483648, 2147485248)], [(2147483648, 2147583648, 0, 0), (2147483648, 2147483656, 1, 0)], h_b489_14)]
set_option maxRecDepth 1000000 in
theorem ck_b489_m14 : e2_cutsB (e2_cal S_b489 I_b489 4000 1) (e2_fin rs_b489) e2x_185 74 4000 cn_b489_14 = true := by decide +kernel
def bn2783 : e2_Q8 := (bn2739, bn2237)
noncomputable def h_b489_15 : ev_H := (bn2783 : e2_Q8)
noncomputable def cn_b489_15 : List e2_Cu := [([(2, 83, 0), (11, 2147483648, 2147485248)], [(2147483648, 2147583648, 0, 0), (2147483648, 2147483656, 1, 0)], h_b489_15)]
set_option maxRecDepth 1000000 in
theorem ck_b489_m15 : e2_cutsB (e2_cal S_b489 I_b489 4000 1) (e2_fin rs_b489) e2x_185 74 4000 cn_b489_15 = true := by decide +kernel
def bn2784 : e2_Q8 := (bn2744, bn2351)
noncomputable def h_b489_16 : ev_H := (bn2784 : e2_Q8)
noncomputable def cn_b489_16 : List e2_Cu := [([(2, 83, 0), (11, 2147483648, 2147485248)], [(2147483648, 2147583648, 0, 0), (2147483648, 2147483656, 1, 0)], h_b489_16)]
set_option maxRecDepth 1000000 in
theorem ck_b489_m16 : e2_cutsB (e2_cal S_b489 I_b489 4000 1) (e2_fin rs_b489) e2x_185 74 4000 cn_b489_16 = true := by decide +kernel
def bn2785 : e2_Q8 := (bn2749, bn2465)
noncomputable def h_b489_17 : ev_H := (bn2785 : e2_Q8)
noncomputable def cn_b489_17 : List e2_Cu := [([(2, 83, 0), (11, 2147483648, 2147485248)], [(2147483648, 2147583648, 0, 0), (2147483648, 2147483656, 1, 0)], h_b489_17)]
set_option maxRecDepth 1000000 in
theorem ck_b489_m17 : e2_cutsB (e2_cal S_b489 I_b489 4000 1) (e2_fin rs_b489) e2x_185 74 4000 cn_b489_17 = true := by decide +kernel
def bn2786 : e2_Q8 := (bn2754, bn2579)
noncomputable def h_b489_18 : ev_H := (bn2786 : e2_Q8)
noncomputable def cn_b489_18 : List e2_Cu := [([(2, 83, 0), (11, 2147483648, 2147485248)], [(2147483648, 2147583648, 0, 0), (2147483648, 2147483656, 1, 0)], h_b489_18)]
set_option maxRecDepth 1000000 in
theorem ck_b489_m18 : e2_cutsB (e2_cal S_b489 I_b489 4000 1) (e2_fin rs_b489) e2x_185 74 4000 cn_b489_18 = true := by decide +kernel
def bc250 : ev_C := (10, [(0, 0, 0), (2, 88, 0), (2, 115, 0), (2, 114, 0), (2, 86, 0), (2, 112, 0), (11, 2147483648, 2147483688), (2, 118, 0), (2, 120, 0), (2, 131, 0), (2, 91, 0), (11, 2147483648, 2147483668), (2, 123, 0), (0, 1, 0), (11, 2147483648, 2147485248), (2, 87, 0), (2, 84, 0), (2, 122, 0), (2, 100, 0), (2, 132, 0), (11, 2147483648, 2147483668), (11, 2147483648, 2147485248), (1, 0, 4294967296), (11, 2147483649, 2147483653), (11, 2147483648, 2147485248), (2, 93, 0), (2, 104, 0), (11, 2147483648, 2147483678), (2, 89, 0), (2, 92, 0), (2, 119, 0), (2, 90, 0), (2, 94, 0), (2, 103, 0), (11, 2147483648, 2147483688), (11, 2147483648, 2147549184), (11, 0, 4294967295), (11, 2147483648, 2147485249), (0, 1, 0), (11, 2147483648, 2147483668), (2, 85, 0), (11, 0, 4294967295), (5, 0, 0), (2, 95, 0), (2, 96, 0), (2, 97, 0), (2, 98, 0), (2, 99, 0), (2, 101, 0), (2, 102, 0), (2, 105, 0), (2, 106, 0), (2, 107, 0), (2, 108, 0), (2, 109, 0), (2, 110, 0), (2, 111, 0), (11, 2147483648, 2147484768), (11, 2147482048, 2147483655), (11, 2147483648, 2147483738), (11, 2147483648, 2147483678), (11, 0, 4294967295), (11, 0, 4294967295), (11, 0, 4294967295), (11, 0, 4294967295), (11, 0, 4294967295), (2, 113, 0), (2, 116, 0), (2, 117, 0), (2, 121, 0), (11, 0, 4294967295), (11, 0, 4294967295), (2, 124, 0), (2, 125, 0), (11, 0, 4294967295), (2, 126, 0), (2, 127, 0), (2, 128, 0), (2, 129, 0), (2, 130, 0)])
def bn2787 : e2_Q1 := (bc250, bc3)
def bn2788 : e2_Q2 := (bn196, bn2787)
def bn2789 : e2_Q3 := (bn2788, bn201)
def bn2790 : e2_Q4 := (bn1402, bn2789)
def bn2791 : e2_Q5 := (bn2790, bn1732)
def bn2792 : e2_Q6 := (bn2791, bn1734)
def bn2793 : e2_Q7 := (bn1730, bn2792)
def bn2794 : e2_Q8 := (bn2711, bn2793)
noncomputable def h_b489_28 : ev_H := (bn2794 : e2_Q8)
noncomputable def cn_b489_28 : List e2_Cu := [([(2, 83, 0), (11, 2147483648, 2147485248)], [(2147483648, 2147583648, 0, 0), (2147483648, 2147483656, 1, 0)], h_b489_28)]
set_option maxRecDepth 1000000 in
theorem ck_b489_m28 : e2_cutsB (e2_cal S_b489 I_b489 4000 1) (e2_fin rs_b489) e2x_185 74 4000 cn_b489_28 = true := by decide +kernel
def bn2795 : e2_Q8 := (bn2719, bn2793)
noncomputable def h_b489_29 : ev_H := (bn2795 : e2_Q8)
noncomputable def cn_b489_29 : List e2_Cu := [([(2, 83, 0), (11, 2147483648, 2147485248)], [(2147483648, 2147583648, 0, 0), (2147483648, 2147483656, 1, 0)], h_b489_29)]
set_option maxRecDepth 1000000 in
theorem ck_b489_m29 : e2_cutsB (e2_cal S_b489 I_b489 4000 1) (e2_fin rs_b489) e2x_185 74 4000 cn_b489_29 = true := by decide +kernel
def bn2796 : e2_Q7 := (bn1796, bn2792)
def bn2797 : e2_Q8 := (bn2724, bn2796)
noncomputable def h_b489_30 : ev_H := (bn2797 : e2_Q8)
noncomputable def cn_b489_30 : List e2_Cu := [([(2, 83, 0), (11, 2147483648, 2147485248)], [(2147483648, 2147583648, 0, 0), (2147483648, 2147483656, 1, 0)], h_b489_30)]
set_option maxRecDepth 1000000 in
theorem ck_b489_m30 : e2_cutsB (e2_cal S_b489 I_b489 4000 1) (e2_fin rs_b489) e2x_185 74 4000 cn_b489_30 = true := by decide +kernel
def bn2798 : e2_Q7 := (bn1912, bn2792)
def bn2799 : e2_Q8 := (bn2729, bn2798)
noncomputable def h_b489_31 : ev_H := (bn2799 : e2_Q8)
noncomputable def cn_b489_31 : List e2_Cu := [([(2, 83, 0), (11, 2147483648, 2147485248)], [(2147483648, 2147583648, 0, 0), (2147483648, 2147483656, 1, 0)], h_b489_31)]
set_option maxRecDepth 1000000 in
theorem ck_b489_m31 : e2_cutsB (e2_cal S_b489 I_b489 4000 1) (e2_fin rs_b489) e2x_185 74 4000 cn_b489_31 = true := by decide +kernel
def bn2800 : e2_Q7 := (bn2026, bn2792)
def bn2801 : e2_Q8 := (bn2734, bn2800)
noncomputable def h_b489_32 : ev_H := (bn2801 : e2_Q8)
noncomputable def cn_b489_32 : List e2_Cu := [([(2, 83, 0), (11, 2147483648, 2147485248)], [(2147483648, 2147583648, 0, 0), (2147483648, 2147483656, 1, 0)], h_b489_32)]
set_option maxRecDepth 1000000 in
theorem ck_b489_m32 : e2_cutsB (e2_cal S_b489 I_b489 4000 1) (e2_fin rs_b489) e2x_185 74 4000 cn_b489_32 = true := by decide +kernel
def bn2802 : e2_Q7 := (bn2140, bn2792)
def bn2803 : e2_Q8 := (bn2739, bn2802)
noncomputable def h_b489_33 : ev_H := (bn2803 : e2_Q8)
noncomputable def cn_b489_33 : List e2_Cu := [([(2, 83, 0), (11, 2147483648, 2147485248)], [(2147483648, 2147583648, 0, 0), (2147483648, 2147483656, 1, 0)], h_b489_33)]
set_option maxRecDepth 1000000 in
theorem ck_b489_m33 : e2_cutsB (e2_cal S_b489 I_b489 4000 1) (e2_fin rs_b489) e2x_185 74 4000 cn_b489_33 = true := by decide +kernel
def bn2804 : e2_Q7 := (bn2254, bn2792)
def bn2805 : e2_Q8 := (bn2744, bn2804)
noncomputable def h_b489_34 : ev_H := (bn2805 : e2_Q8)
noncomputable def cn_b489_34 : List e2_Cu := [([(2, 83, 0), (11, 2147483648, 2147485248)], [(2147483648, 2147583648, 0, 0), (2147483648, 2147483656, 1, 0)], h_b489_34)]
set_option maxRecDepth 1000000 in
theorem ck_b489_m34 : e2_cutsB (e2_cal S_b489 I_b489 4000 1) (e2_fin rs_b489) e2x_185 74 4000 cn_b489_34 = true := by decide +kernel
def bn2806 : e2_Q7 := (bn2368, bn2792)
def bn2807 : e2_Q8 := (bn2749, bn2806)
noncomputable def h_b489_35 : ev_H := (bn2807 : e2_Q8)
noncomputable def cn_b489_35 : List e2_Cu := [([(2, 83, 0), (11, 2147483648, 2147485248)], [(2147483648, 2147583648, 0, 0), (2147483648, 2147483656, 1, 0)], h_b489_35)]
set_option maxRecDepth 1000000 in
theorem ck_b489_m35 : e2_cutsB (e2_cal S_b489 I_b489 4000 1) (e2_fin rs_b489) e2x_185 74 4000 cn_b489_35 = true := by decide +kernel
def bn2808 : e2_Q7 := (bn2482, bn2792)
def bn2809 : e2_Q8 := (bn2754, bn2808)
noncomputable def h_b489_36 : ev_H := (bn2809 : e2_Q8)
noncomputable def cn_b489_36 : List e2_Cu := [([(2, 83, 0), (11, 2147483648, 2147485248)], [(2147483648, 2147583648, 0, 0), (2147483648, 2147483656, 1, 0)], h_b489_36)]
set_option maxRecDepth 1000000 in
theorem ck_b489_m36 : e2_cutsB (e2_cal S_b489 I_b489 4000 1) (e2_fin rs_b489) e2x_185 74 4000 cn_b489_36 = true := by decide +kernel
def bc251 : ev_C := (10, [(0, 0, 0), (2, 88, 0), (2, 115, 0), (2, 114, 0), (2, 86, 0), (2, 112, 0), (11, 2147483648, 2147483688), (2, 118, 0), (2, 120, 0), (2, 131, 0), (2, 91, 0), (11, 2147483648, 2147483668), (2, 123, 0), (0, 1, 0), (11, 2147483648, 2147485248), (2, 87, 0), (2, 84, 0), (2, 122, 0), (2, 100, 0), (2, 132, 0), (11, 2147483648, 2147483668), (11, 2147483648, 2147485248), (1, 0, 4294967296), (11, 2147483649, 2147483653), (11, 2147483648, 2147485248), (2, 93, 0), (2, 104, 0), (11, 2147483648, 2147483678), (2, 89, 0), (2, 92, 0), (2, 119, 0), (2, 90, 0), (2, 94, 0), (2, 103, 0), (11, 2147483648, 2147483688), (11, 2147483648, 2147549184), (11, 0, 4294967295), (11, 2147483648, 2147485249), (0, 4, 0), (11, 2147483648, 2147483668), (2, 85, 0), (11, 0, 4294967295), (5, 0, 0), (2, 95, 0), (2, 96, 0), (2, 97, 0), (2, 98, 0), (2, 99, 0), (2, 101, 0), (2, 102, 0), (2, 105, 0), (2, 106, 0), (2, 107, 0), (2, 108, 0), (2, 109, 0), (2, 110, 0), (2, 111, 0), (11, 2147483648, 2147484768), (11, 2147482048, 2147483655), (11, 2147483648, 2147483738), (11, 2147483648, 2147483678), (11, 0, 4294967295), (11, 0, 4294967295), (11, 0, 4294967295), (11, 0, 4294967295), (11, 0, 4294967295), (2, 113, 0), (2, 116, 0), (2, 117, 0), (2, 121, 0), (11, 0, 4294967295), (11, 0, 4294967295), (2, 124, 0), (2, 125, 0), (11, 0, 4294967295), (2, 126, 0), (2, 127, 0), (2, 128, 0), (2, 129, 0), (2, 130, 0)])
def bn2810 : e2_Q1 := (bc251, bc3)
def bn2811 : e2_Q2 := (bn196, bn2810)
def bn2812 : e2_Q3 := (bn2811, bn201)
def bn2813 : e2_Q4 := (bn1402, bn2812)
def bn2814 : e2_Q5 := (bn2813, bn1732)
def bn2815 : e2_Q6 := (bn2814, bn1734)
def bn2816 : e2_Q7 := (bn1730, bn2815)
def bn2817 : e2_Q8 := (bn2711, bn2816)
noncomputable def h_b489_46 : ev_H := (bn2817 : e2_Q8)
noncomputable def cn_b489_46 : List e2_Cu := [([(2, 83, 0), (11, 2147483648, 2147485248)], [(2147483648, 2147583648, 0, 0), (2147483648, 2147483656, 1, 0)], h_b489_46)]
set_option maxRecDepth 1000000 in
theorem ck_b489_m46 : e2_cutsB (e2_cal S_b489 I_b489 4000 1) (e2_fin rs_b489) e2x_185 74 4000 cn_b489_46 = true := by decide +kernel
def bn2818 : e2_Q8 := (bn2719, bn2816)
noncomputable def h_b489_47 : ev_H := (bn2818 : e2_Q8)
noncomputable def cn_b489_47 : List e2_Cu := [([(2, 83, 0), (11, 2147483648, 2147485248)], [(2147483648, 2147583648, 0, 0), (2147483648, 2147483656, 1, 0)], h_b489_47)]
set_option maxRecDepth 1000000 in
theorem ck_b489_m47 : e2_cutsB (e2_cal S_b489 I_b489 4000 1) (e2_fin rs_b489) e2x_185 74 4000 cn_b489_47 = true := by decide +kernel
def bn2819 : e2_Q7 := (bn1796, bn2815)
def bn2820 : e2_Q8 := (bn2724, bn2819)
noncomputable def h_b489_48 : ev_H := (bn2820 : e2_Q8)
noncomputable def cn_b489_48 : List e2_Cu := [([(2, 83, 0), (11, 2147483648, 2147485248)], [(2147483648, 2147583648, 0, 0), (2147483648, 2147483656, 1, 0)], h_b489_48)]
set_option maxRecDepth 1000000 in
theorem ck_b489_m48 : e2_cutsB (e2_cal S_b489 I_b489 4000 1) (e2_fin rs_b489) e2x_185 74 4000 cn_b489_48 = true := by decide +kernel
def bn2821 : e2_Q7 := (bn1912, bn2815)
def bn2822 : e2_Q8 := (bn2729, bn2821)
noncomputable def h_b489_49 : ev_H := (bn2822 : e2_Q8)
noncomputable def cn_b489_49 : List e2_Cu := [([(2, 83, 0), (11, 2147483648, 2147485248)], [(2147483648, 2147583648, 0, 0), (2147483648, 2147483656, 1, 0)], h_b489_49)]
set_option maxRecDepth 1000000 in
theorem ck_b489_m49 : e2_cutsB (e2_cal S_b489 I_b489 4000 1) (e2_fin rs_b489) e2x_185 74 4000 cn_b489_49 = true := by decide +kernel
def bn2823 : e2_Q7 := (bn2026, bn2815)
def bn2824 : e2_Q8 := (bn2734, bn2823)
noncomputable def h_b489_50 : ev_H := (bn2824 : e2_Q8)
noncomputable def cn_b489_50 : List e2_Cu := [([(2, 83, 0), (11, 2147483648, 2147485248)], [(2147483648, 2147583648, 0, 0), (2147483648, 2147483656, 1, 0)], h_b489_50)]
set_option maxRecDepth 1000000 in
theorem ck_b489_m50 : e2_cutsB (e2_cal S_b489 I_b489 4000 1) (e2_fin rs_b489) e2x_185 74 4000 cn_b489_50 = true := by decide +kernel
def bn2825 : e2_Q7 := (bn2140, bn2815)
def bn2826 : e2_Q8 := (bn2739, bn2825)
noncomputable def h_b489_51 : ev_H := (bn2826 : e2_Q8)
noncomputable def cn_b489_51 : List e2_Cu := [([(2, 83, 0), (11, 2147483648, 2147485248)], [(2147483648, 2147583648, 0, 0), (2147483648, 2147483656, 1, 0)], h_b489_51)]
set_option maxRecDepth 1000000 in
theorem ck_b489_m51 : e2_cutsB (e2_cal S_b489 I_b489 4000 1) (e2_fin rs_b489) e2x_185 74 4000 cn_b489_51 = true := by decide +kernel
def bn2827 : e2_Q7 := (bn2254, bn2815)
def bn2828 : e2_Q8 := (bn2744, bn2827)
noncomputable def h_b489_52 : ev_H := (bn2828 : e2_Q8)
noncomputable def cn_b489_52 : List e2_Cu := [([(2, 83, 0), (11, 2147483648, 2147485248)], [(2147483648, 2147583648, 0, 0), (2147483648, 2147483656, 1, 0)], h_b489_52)]
set_option maxRecDepth 1000000 in
theorem ck_b489_m52 : e2_cutsB (e2_cal S_b489 I_b489 4000 1) (e2_fin rs_b489) e2x_185 74 4000 cn_b489_52 = true := by decide +kernel
def bn2829 : e2_Q7 := (bn2368, bn2815)
def bn2830 : e2_Q8 := (bn2749, bn2829)
noncomputable def h_b489_53 : ev_H := (bn2830 : e2_Q8)
noncomputable def cn_b489_53 : List e2_Cu := [([(2, 83, 0), (11, 2147483648, 2147485248)], [(2147483648, 2147583648, 0, 0), (2147483648, 2147483656, 1, 0)], h_b489_53)]
set_option maxRecDepth 1000000 in
theorem ck_b489_m53 : e2_cutsB (e2_cal S_b489 I_b489 4000 1) (e2_fin rs_b489) e2x_185 74 4000 cn_b489_53 = true := by decide +kernel
def bn2831 : e2_Q7 := (bn2482, bn2815)
def bn2832 : e2_Q8 := (bn2754, bn2831)
noncomputable def h_b489_54 : ev_H := (bn2832 : e2_Q8)
noncomputable def cn_b489_54 : List e2_Cu := [([(2, 83, 0), (11, 2147483648, 2147485248)], [(2147483648, 2147583648, 0, 0), (2147483648, 2147483656, 1, 0)], h_b489_54)]
set_option maxRecDepth 1000000 in
theorem ck_b489_m54 : e2_cutsB (e2_cal S_b489 I_b489 4000 1) (e2_fin rs_b489) e2x_185 74 4000 cn_b489_54 = true := by decide +kernel
def bn2833 : e2_Q8 := (bn2711, bn1749)
noncomputable def h_b489_64 : ev_H := (bn2833 : e2_Q8)
noncomputable def cn_b489_64 : List e2_Cu := [([(2, 83, 0), (11, 2147483648, 2147485248)], [(2147483648, 2147583648, 0, 0), (2147483648, 2147483656, 1, 0)], h_b489_64)]
set_option maxRecDepth 1000000 in
theorem ck_b489_m64 : e2_cutsB (e2_cal S_b489 I_b489 4000 1) (e2_fin rs_b489) e2x_185 74 4000 cn_b489_64 = true := by decide +kernel
def bn2834 : e2_Q8 := (bn2719, bn1749)
noncomputable def h_b489_65 : ev_H := (bn2834 : e2_Q8)
noncomputable def cn_b489_65 : List e2_Cu := [([(2, 83, 0), (11, 2147483648, 2147485248)], [(2147483648, 2147583648, 0, 0), (2147483648, 2147483656, 1, 0)], h_b489_65)]
set_option maxRecDepth 1000000 in
theorem ck_b489_m65 : e2_cutsB (e2_cal S_b489 I_b489 4000 1) (e2_fin rs_b489) e2x_185 74 4000 cn_b489_65 = true := by decide +kernel
def bn2835 : e2_Q8 := (bn2724, bn1893)
noncomputable def h_b489_66 : ev_H := (bn2835 : e2_Q8)
noncomputable def cn_b489_66 : List e2_Cu := [([(2, 83, 0), (11, 2147483648, 2147485248)], [(2147483648, 2147583648, 0, 0), (2147483648, 2147483656, 1, 0)], h_b489_66)]
set_option maxRecDepth 1000000 in
theorem ck_b489_m66 : e2_cutsB (e2_cal S_b489 I_b489 4000 1) (e2_fin rs_b489) e2x_185 74 4000 cn_b489_66 = true := by decide +kernel
def bn2836 : e2_Q8 := (bn2729, bn2007)
noncomputable def h_b489_67 : ev_H := (bn2836 : e2_Q8)
noncomputable def cn_b489_67 : List e2_Cu := [([(2, 83, 0), (11, 2147483648, 2147485248)], [(2147483648, 2147583648, 0, 0), (2147483648, 2147483656, 1, 0)], h_b489_67)]
set_option maxRecDepth 1000000 in
theorem ck_b489_m67 : e2_cutsB (e2_cal S_b489 I_b489 4000 1) (e2_fin rs_b489) e2x_185 74 4000 cn_b489_67 = true := by decide +kernel
def bn2837 : e2_Q8 := (bn2734, bn2121)
noncomputable def h_b489_68 : ev_H := (bn2837 : e2_Q8)
noncomputable def cn_b489_68 : List e2_Cu := [([(2, 83, 0), (11, 2147483648, 2147485248)], [(2147483648, 2147583648, 0, 0), (2147483648, 2147483656, 1, 0)], h_b489_68)]
set_option maxRecDepth 1000000 in
theorem ck_b489_m68 : e2_cutsB (e2_cal S_b489 I_b489 4000 1) (e2_fin rs_b489) e2x_185 74 4000 cn_b489_68 = true := by decide +kernel
def bn2838 : e2_Q8 := (bn2739, bn2235)
noncomputable def h_b489_69 : ev_H := (bn2838 : e2_Q8)
noncomputable def cn_b489_69 : List e2_Cu := [([(2, 83, 0), (11, 2147483648, 2147485248)], [(2147483648, 2147583648, 0, 0), (2147483648, 2147483656, 1, 0)], h_b489_69)]
set_option maxRecDepth 1000000 in
theorem ck_b489_m69 : e2_cutsB (e2_cal S_b489 I_b489 4000 1) (e2_fin rs_b489) e2x_185 74 4000 cn_b489_69 = true := by decide +kernel
def bn2839 : e2_Q8 := (bn2744, bn2349)
noncomputable def h_b489_70 : ev_H := (bn2839 : e2_Q8)
noncomputable def cn_b489_70 : List e2_Cu := [([(2, 83, 0), (11, 2147483648, 2147485248)], [(2147483648, 2147583648, 0, 0), (2147483648, 2147483656, 1, 0)], h_b489_70)]
set_option maxRecDepth 1000000 in
theorem ck_b489_m70 : e2_cutsB (e2_cal S_b489 I_b489 4000 1) (e2_fin rs_b489) e2x_185 74 4000 cn_b489_70 = true := by decide +kernel
def bn2840 : e2_Q8 := (bn2749, bn2463)
noncomputable def h_b489_71 : ev_H := (bn2840 : e2_Q8)
noncomputable def cn_b489_71 : List e2_Cu := [([(2, 83, 0), (11, 2147483648, 2147485248)], [(2147483648, 2147583648, 0, 0), (2147483648, 2147483656, 1, 0)], h_b489_71)]
set_option maxRecDepth 1000000 in
theorem ck_b489_m71 : e2_cutsB (e2_cal S_b489 I_b489 4000 1) (e2_fin rs_b489) e2x_185 74 4000 cn_b489_71 = true := by decide +kernel
def bn2841 : e2_Q8 := (bn2754, bn2577)
noncomputable def h_b489_72 : ev_H := (bn2841 : e2_Q8)
noncomputable def cn_b489_72 : List e2_Cu := [([(2, 83, 0), (11, 2147483648, 2147485248)], [(2147483648, 2147583648, 0, 0), (2147483648, 2147483656, 1, 0)], h_b489_72)]
set_option maxRecDepth 1000000 in
theorem ck_b489_m72 : e2_cutsB (e2_cal S_b489 I_b489 4000 1) (e2_fin rs_b489) e2x_185 74 4000 cn_b489_72 = true := by decide +kernel
def bn2842 : e2_Q8 := (bn2711, bn1809)
noncomputable def h_b489_82 : ev_H := (bn2842 : e2_Q8)
noncomputable def cn_b489_82 : List e2_Cu := [([(2, 83, 0), (11, 2147483648, 2147485248)], [(2147483648, 2147583648, 0, 0), (2147483648, 2147483656, 1, 0)], h_b489_82)]
set_option maxRecDepth 1000000 in
theorem ck_b489_m82 : e2_cutsB (e2_cal S_b489 I_b489 4000 1) (e2_fin rs_b489) e2x_185 74 4000 cn_b489_82 = true := by decide +kernel
def bn2843 : e2_Q8 := (bn2719, bn1809)
noncomputable def h_b489_83 : ev_H := (bn2843 : e2_Q8)
noncomputable def cn_b489_83 : List e2_Cu := [([(2, 83, 0), (11, 2147483648, 2147485248)], [(2147483648, 2147583648, 0, 0), (2147483648, 2147483656, 1, 0)], h_b489_83)]
set_option maxRecDepth 1000000 in
theorem ck_b489_m83 : e2_cutsB (e2_cal S_b489 I_b489 4000 1) (e2_fin rs_b489) e2x_185 74 4000 cn_b489_83 = true := by decide +kernel
def bn2844 : e2_Q8 := (bn2724, bn1923)
noncomputable def h_b489_84 : ev_H := (bn2844 : e2_Q8)
noncomputable def cn_b489_84 : List e2_Cu := [([(2, 83, 0), (11, 2147483648, 2147485248)], [(2147483648, 2147583648, 0, 0), (2147483648, 2147483656, 1, 0)], h_b489_84)]
set_option maxRecDepth 1000000 in
theorem ck_b489_m84 : e2_cutsB (e2_cal S_b489 I_b489 4000 1) (e2_fin rs_b489) e2x_185 74 4000 cn_b489_84 = true := by decide +kernel
def bn2845 : e2_Q8 := (bn2729, bn2037)
noncomputable def h_b489_85 : ev_H := (bn2845 : e2_Q8)
noncomputable def cn_b489_85 : List e2_Cu := [([(2, 83, 0), (11, 2147483648, 2147485248)], [(2147483648, 2147583648, 0, 0), (2147483648, 2147483656, 1, 0)], h_b489_85)]
set_option maxRecDepth 1000000 in
theorem ck_b489_m85 : e2_cutsB (e2_cal S_b489 I_b489 4000 1) (e2_fin rs_b489) e2x_185 74 4000 cn_b489_85 = true := by decide +kernel
def bn2846 : e2_Q8 := (bn2734, bn2151)
noncomputable def h_b489_86 : ev_H := (bn2846 : e2_Q8)
noncomputable def cn_b489_86 : List e2_Cu := [([(2, 83, 0), (11, 2147483648, 2147485248)], [(2147483648, 2147583648, 0, 0), (2147483648, 2147483656, 1, 0)], h_b489_86)]
set_option maxRecDepth 1000000 in
theorem ck_b489_m86 : e2_cutsB (e2_cal S_b489 I_b489 4000 1) (e2_fin rs_b489) e2x_185 74 4000 cn_b489_86 = true := by decide +kernel
def bn2847 : e2_Q8 := (bn2739, bn2265)
noncomputable def h_b489_87 : ev_H := (bn2847 : e2_Q8)
noncomputable def cn_b489_87 : List e2_Cu := [([(2, 83, 0), (11, 2147483648, 2147485248)], [(2147483648, 2147583648, 0, 0), (2147483648, 2147483656, 1, 0)], h_b489_87)]
set_option maxRecDepth 1000000 in
theorem ck_b489_m87 : e2_cutsB (e2_cal S_b489 I_b489 4000 1) (e2_fin rs_b489) e2x_185 74 4000 cn_b489_87 = true := by decide +kernel
def bn2848 : e2_Q8 := (bn2744, bn2379)
noncomputable def h_b489_88 : ev_H := (bn2848 : e2_Q8)
noncomputable def cn_b489_88 : List e2_Cu := [([(2, 83, 0), (11, 2147483648, 2147485248)], [(2147483648, 2147583648, 0, 0), (2147483648, 2147483656, 1, 0)], h_b489_88)]
set_option maxRecDepth 1000000 in
theorem ck_b489_m88 : e2_cutsB (e2_cal S_b489 I_b489 4000 1) (e2_fin rs_b489) e2x_185 74 4000 cn_b489_88 = true := by decide +kernel
def bn2849 : e2_Q8 := (bn2749, bn2493)
noncomputable def h_b489_89 : ev_H := (bn2849 : e2_Q8)
noncomputable def cn_b489_89 : List e2_Cu := [([(2, 83, 0), (11, 2147483648, 2147485248)], [(2147483648, 2147583648, 0, 0), (2147483648, 2147483656, 1, 0)], h_b489_89)]
set_option maxRecDepth 1000000 in
theorem ck_b489_m89 : e2_cutsB (e2_cal S_b489 I_b489 4000 1) (e2_fin rs_b489) e2x_185 74 4000 cn_b489_89 = true := by decide +kernel
def bn2850 : e2_Q8 := (bn2754, bn2607)
noncomputable def h_b489_90 : ev_H := (bn2850 : e2_Q8)
noncomputable def cn_b489_90 : List e2_Cu := [([(2, 83, 0), (11, 2147483648, 2147485248)], [(2147483648, 2147583648, 0, 0), (2147483648, 2147483656, 1, 0)], h_b489_90)]
set_option maxRecDepth 1000000 in
theorem ck_b489_m90 : e2_cutsB (e2_cal S_b489 I_b489 4000 1) (e2_fin rs_b489) e2x_185 74 4000 cn_b489_90 = true := by decide +kernel
def bn2851 : e2_Q8 := (bn2711, bn1785)
noncomputable def h_b489_91 : ev_H := (bn2851 : e2_Q8)
noncomputable def cn_b489_91 : List e2_Cu := [([(2, 83, 0), (11, 2147483648, 2147485248)], [(2147483648, 2147583648, 0, 0), (2147483648, 2147483656, 1, 0)], h_b489_91)]
set_option maxRecDepth 1000000 in
theorem ck_b489_m91 : e2_cutsB (e2_cal S_b489 I_b489 4000 1) (e2_fin rs_b489) e2x_185 74 4000 cn_b489_91 = true := by decide +kernel
def bn2852 : e2_Q8 := (bn2719, bn1785)
noncomputable def h_b489_92 : ev_H := (bn2852 : e2_Q8)
noncomputable def cn_b489_92 : List e2_Cu := [([(2, 83, 0), (11, 2147483648, 2147485248)], [(2147483648, 2147583648, 0, 0), (2147483648, 2147483656, 1, 0)], h_b489_92)]
set_option maxRecDepth 1000000 in
theorem ck_b489_m92 : e2_cutsB (e2_cal S_b489 I_b489 4000 1) (e2_fin rs_b489) e2x_185 74 4000 cn_b489_92 = true := by decide +kernel
def bn2853 : e2_Q8 := (bn2724, bn1901)
noncomputable def h_b489_93 : ev_H := (bn2853 : e2_Q8)
noncomputable def cn_b489_93 : List e2_Cu := [([(2, 83, 0), (11, 2147483648, 2147485248)], [(2147483648, 2147583648, 0, 0), (2147483648, 2147483656, 1, 0)], h_b489_93)]
set_option maxRecDepth 1000000 in
theorem ck_b489_m93 : e2_cutsB (e2_cal S_b489 I_b489 4000 1) (e2_fin rs_b489) e2x_185 74 4000 cn_b489_93 = true := by decide +kernel
def bn2854 : e2_Q8 := (bn2729, bn2015)
noncomputable def h_b489_94 : ev_H := (bn2854 : e2_Q8)
noncomputable def cn_b489_94 : List e2_Cu := [([(2, 83, 0), (11, 2147483648, 2147485248)], [(2147483648, 2147583648, 0, 0), (2147483648, 2147483656, 1, 0)], h_b489_94)]
set_option maxRecDepth 1000000 in
theorem ck_b489_m94 : e2_cutsB (e2_cal S_b489 I_b489 4000 1) (e2_fin rs_b489) e2x_185 74 4000 cn_b489_94 = true := by decide +kernel
def bn2855 : e2_Q8 := (bn2734, bn2129)
noncomputable def h_b489_95 : ev_H := (bn2855 : e2_Q8)
noncomputable def cn_b489_95 : List e2_Cu := [([(2, 83, 0), (11, 2147483648, 2147485248)], [(2147483648, 2147583648, 0, 0), (2147483648, 2147483656, 1, 0)], h_b489_95)]
set_option maxRecDepth 1000000 in
theorem ck_b489_m95 : e2_cutsB (e2_cal S_b489 I_b489 4000 1) (e2_fin rs_b489) e2x_185 74 4000 cn_b489_95 = true := by decide +kernel
def bn2856 : e2_Q8 := (bn2739, bn2243)
noncomputable def h_b489_96 : ev_H := (bn2856 : e2_Q8)
noncomputable def cn_b489_96 : List e2_Cu := [([(2, 83, 0), (11, 2147483648, 2147485248)], [(2147483648, 2147583648, 0, 0), (2147483648, 2147483656, 1, 0)], h_b489_96)]
set_option maxRecDepth 1000000 in
theorem ck_b489_m96 : e2_cutsB (e2_cal S_b489 I_b489 4000 1) (e2_fin rs_b489) e2x_185 74 4000 cn_b489_96 = true := by decide +kernel
def bn2857 : e2_Q8 := (bn2744, bn2357)
noncomputable def h_b489_97 : ev_H := (bn2857 : e2_Q8)
noncomputable def cn_b489_97 : List e2_Cu := [([(2, 83, 0), (11, 2147483648, 2147485248)], [(2147483648, 2147583648, 0, 0), (2147483648, 2147483656, 1, 0)], h_b489_97)]
set_option maxRecDepth 1000000 in
theorem ck_b489_m97 : e2_cutsB (e2_cal S_b489 I_b489 4000 1) (e2_fin rs_b489) e2x_185 74 4000 cn_b489_97 = true := by decide +kernel
def bn2858 : e2_Q8 := (bn2749, bn2471)
noncomputable def h_b489_98 : ev_H := (bn2858 : e2_Q8)
noncomputable def cn_b489_98 : List e2_Cu := [([(2, 83, 0), (11, 2147483648, 2147485248)], [(2147483648, 2147583648, 0, 0), (2147483648, 2147483656, 1, 0)], h_b489_98)]
set_option maxRecDepth 1000000 in
theorem ck_b489_m98 : e2_cutsB (e2_cal S_b489 I_b489 4000 1) (e2_fin rs_b489) e2x_185 74 4000 cn_b489_98 = true := by decide +kernel
def bn2859 : e2_Q8 := (bn2754, bn2585)
noncomputable def h_b489_99 : ev_H := (bn2859 : e2_Q8)
noncomputable def cn_b489_99 : List e2_Cu := [([(2, 83, 0), (11, 2147483648, 2147485248)], [(2147483648, 2147583648, 0, 0), (2147483648, 2147483656, 1, 0)], h_b489_99)]
set_option maxRecDepth 1000000 in
theorem ck_b489_m99 : e2_cutsB (e2_cal S_b489 I_b489 4000 1) (e2_fin rs_b489) e2x_185 74 4000 cn_b489_99 = true := by decide +kernel
def al_b489_0 : List ev_V := [(2, 83, 0), (1, 2, 4294967296)]
def E_b489_0 : e2_E := [(2147483648, 2147583648, 0, 0), (2147483648, 2147483656, 1, 0), (2147483648, 2147485248, 2, 0)]
def bc252 : ev_C := (10, [(0, 0, 0), (2, 88, 0), (2, 115, 0), (2, 114, 0), (2, 86, 0), (2, 112, 0), (11, 2147483648, 2147483688), (2, 118, 0), (2, 120, 0), (2, 131, 0), (2, 91, 0), (11, 2147483648, 2147483668), (2, 123, 0), (11, 2147483648, 2147483649), (11, 2147483648, 2147485248), (2, 87, 0), (2, 84, 0), (2, 122, 0), (2, 100, 0), (2, 132, 0), (11, 2147483648, 2147483668), (11, 2147483648, 2147485248), (1, 0, 4294967296), (0, 0, 0), (11, 2147483648, 2147485248), (2, 93, 0), (2, 104, 0), (11, 2147483648, 2147483678), (2, 89, 0), (2, 92, 0), (2, 119, 0), (2, 90, 0), (2, 94, 0), (2, 103, 0), (11, 2147483648, 2147483688), (11, 2147483648, 2147549184), (11, 0, 4294967295), (11, 2147483648, 2147485249), (11, 2147483648, 2147483653), (11, 2147483648, 2147483668), (2, 85, 0), (11, 0, 4294967295), (5, 0, 0), (2, 95, 0), (2, 96, 0), (2, 97, 0), (2, 98, 0), (2, 99, 0), (2, 101, 0), (2, 102, 0), (2, 105, 0), (2, 106, 0), (2, 107, 0), (2, 108, 0), (2, 109, 0), (2, 110, 0), (2, 111, 0), (11, 2147483648, 2147484768), (11, 2147482048, 2147483655), (11, 2147483648, 2147483738), (11, 2147483648, 2147483678), (11, 0, 4294967295), (11, 0, 4294967295), (11, 0, 4294967295), (11, 0, 4294967295), (11, 0, 4294967295), (2, 113, 0), (2, 116, 0), (2, 117, 0), (2, 121, 0), (11, 0, 4294967295), (11, 0, 4294967295), (2, 124, 0), (2, 125, 0), (11, 0, 4294967295), (2, 126, 0), (2, 127, 0), (2, 128, 0), (2, 129, 0), (2, 130, 0)])
def bn2860 : e2_Q1 := (bc252, bc3)
def bn2861 : e2_Q2 := (bn196, bn2860)
def bn2862 : e2_Q3 := (bn2861, bn201)
def bn2863 : e2_Q4 := (bn1402, bn2862)
def bn2864 : e2_Q5 := (bn2863, bn1732)
def bn2865 : e2_Q6 := (bn2864, bn1734)
def bn2866 : e2_Q7 := (bn1730, bn2865)
def bn2867 : e2_Q8 := (bn2703, bn2866)
noncomputable def h_b489_0 : ev_H := (bn2867 : e2_Q8)
def al_b489_19 : List ev_V := [(2, 83, 0), (11, 2147483648, 2147485248)]
def E_b489_19 : e2_E := [(2147483648, 2147583648, 0, 0), (2147483648, 2147483656, 1, 0), (2147483648, 2147485249, 2, 0)]
def bc253 : ev_C := (10, [(0, 0, 0), (2, 88, 0), (2, 115, 0), (2, 114, 0), (2, 86, 0), (2, 112, 0), (11, 2147483648, 2147483688), (2, 118, 0), (2, 120, 0), (2, 131, 0), (2, 91, 0), (11, 2147483648, 2147483668), (2, 123, 0), (0, 1, 0), (11, 2147483648, 2147485248), (2, 87, 0), (2, 84, 0), (2, 122, 0), (2, 100, 0), (2, 132, 0), (11, 2147483648, 2147483668), (11, 2147483648, 2147485248), (1, 0, 4294967296), (0, 0, 0), (11, 2147483648, 2147485248), (2, 93, 0), (2, 104, 0), (11, 2147483648, 2147483678), (2, 89, 0), (2, 92, 0), (2, 119, 0), (2, 90, 0), (2, 94, 0), (2, 103, 0), (11, 2147483648, 2147483688), (11, 2147483648, 2147549184), (11, 0, 4294967295), (1, 2, 4294967296), (0, 1, 0), (11, 2147483648, 2147483668), (2, 85, 0), (11, 0, 4294967295), (5, 0, 0), (2, 95, 0), (2, 96, 0), (2, 97, 0), (2, 98, 0), (2, 99, 0), (2, 101, 0), (2, 102, 0), (2, 105, 0), (2, 106, 0), (2, 107, 0), (2, 108, 0), (2, 109, 0), (2, 110, 0), (2, 111, 0), (11, 2147483648, 2147484768), (11, 2147482048, 2147483655), (11, 2147483648, 2147483738), (11, 2147483648, 2147483678), (11, 0, 4294967295), (11, 0, 4294967295), (11, 0, 4294967295), (11, 0, 4294967295), (11, 0, 4294967295), (2, 113, 0), (2, 116, 0), (2, 117, 0), (2, 121, 0), (11, 0, 4294967295), (11, 0, 4294967295), (2, 124, 0), (2, 125, 0), (11, 0, 4294967295), (2, 126, 0), (2, 127, 0), (2, 128, 0), (2, 129, 0), (2, 130, 0)])
def bn2868 : e2_Q1 := (bc253, bc3)
def bn2869 : e2_Q2 := (bn196, bn2868)
def bn2870 : e2_Q3 := (bn2869, bn201)
def bn2871 : e2_Q4 := (bn1402, bn2870)
def bn2872 : e2_Q5 := (bn2871, bn1732)
def bn2873 : e2_Q6 := (bn2872, bn1734)
def bn2874 : e2_Q7 := (bn1730, bn2873)
def bn2875 : e2_Q8 := (bn2711, bn2874)
noncomputable def h_b489_19 : ev_H := (bn2875 : e2_Q8)
def al_b489_20 : List ev_V := [(2, 83, 0), (11, 2147483648, 2147485248)]
def E_b489_20 : e2_E := [(2147483648, 2147583648, 0, 0), (2147483648, 2147483656, 1, 0), (2147483648, 2147485249, 2, 0)]
def bn2876 : e2_Q7 := (bn1796, bn2873)
def bn2877 : e2_Q8 := (bn2719, bn2876)
noncomputable def h_b489_20 : ev_H := (bn2877 : e2_Q8)
def al_b489_21 : List ev_V := [(2, 83, 0), (11, 2147483648, 2147485248)]
def E_b489_21 : e2_E := [(2147483648, 2147583648, 0, 0), (2147483648, 2147483656, 1, 0), (2147483648, 2147485249, 2, 0)]
def bn2878 : e2_Q7 := (bn1912, bn2873)
def bn2879 : e2_Q8 := (bn2724, bn2878)
noncomputable def h_b489_21 : ev_H := (bn2879 : e2_Q8)
def al_b489_22 : List ev_V := [(2, 83, 0), (11, 2147483648, 2147485248)]
def E_b489_22 : e2_E := [(2147483648, 2147583648, 0, 0), (2147483648, 2147483656, 1, 0), (2147483648, 2147485249, 2, 0)]
def bn2880 : e2_Q7 := (bn2026, bn2873)
def bn2881 : e2_Q8 := (bn2729, bn2880)
noncomputable def h_b489_22 : ev_H := (bn2881 : e2_Q8)
def al_b489_23 : List ev_V := [(2, 83, 0), (11, 2147483648, 2147485248)]
def E_b489_23 : e2_E := [(2147483648, 2147583648, 0, 0), (2147483648, 2147483656, 1, 0), (2147483648, 2147485249, 2, 0)]
def bn2882 : e2_Q7 := (bn2140, bn2873)
def bn2883 : e2_Q8 := (bn2734, bn2882)
noncomputable def h_b489_23 : ev_H := (bn2883 : e2_Q8)
def al_b489_24 : List ev_V := [(2, 83, 0), (11, 2147483648, 2147485248)]
def E_b489_24 : e2_E := [(2147483648, 2147583648, 0, 0), (2147483648, 2147483656, 1, 0), (2147483648, 2147485249, 2, 0)]
def bn2884 : e2_Q7 := (bn2254, bn2873)
def bn2885 : e2_Q8 := (bn2739, bn2884)
noncomputable def h_b489_24 : ev_H := (bn2885 : e2_Q8)
def al_b489_25 : List ev_V := [(2, 83, 0), (11, 2147483648, 2147485248)]
def E_b489_25 : e2_E := [(2147483648, 2147583648, 0, 0), (2147483648, 2147483656, 1, 0), (2147483648, 2147485249, 2, 0)]
def bn2886 : e2_Q7 := (bn2368, bn2873)
def bn2887 : e2_Q8 := (bn2744, bn2886)
noncomputable def h_b489_25 : ev_H := (bn2887 : e2_Q8)
def al_b489_26 : List ev_V := [(2, 83, 0), (11, 2147483648, 2147485248)]
def E_b489_26 : e2_E := [(2147483648, 2147583648, 0, 0), (2147483648, 2147483656, 1, 0), (2147483648, 2147485249, 2, 0)]
def bn2888 : e2_Q7 := (bn2482, bn2873)
def bn2889 : e2_Q8 := (bn2749, bn2888)
noncomputable def h_b489_26 : ev_H := (bn2889 : e2_Q8)
def al_b489_27 : List ev_V := [(2, 83, 0), (11, 2147483648, 2147485248)]
def E_b489_27 : e2_E := [(2147483648, 2147583648, 0, 0), (2147483648, 2147483656, 1, 0), (2147483648, 2147485249, 2, 0)]
def bn2890 : e2_Q7 := (bn2596, bn2873)
def bn2891 : e2_Q8 := (bn2754, bn2890)
noncomputable def h_b489_27 : ev_H := (bn2891 : e2_Q8)
def al_b489_37 : List ev_V := [(2, 83, 0), (11, 2147483648, 2147485248)]
def E_b489_37 : e2_E := [(2147483648, 2147583648, 0, 0), (2147483648, 2147483656, 1, 0), (2147483648, 2147485249, 2, 0)]
def bc254 : ev_C := (10, [(0, 0, 0), (2, 88, 0), (2, 115, 0), (2, 114, 0), (2, 86, 0), (2, 112, 0), (11, 2147483648, 2147483688), (2, 118, 0), (2, 120, 0), (2, 131, 0), (2, 91, 0), (11, 2147483648, 2147483668), (2, 123, 0), (0, 1, 0), (11, 2147483648, 2147485248), (2, 87, 0), (2, 84, 0), (2, 122, 0), (2, 100, 0), (2, 132, 0), (11, 2147483648, 2147483668), (11, 2147483648, 2147485248), (1, 0, 4294967296), (0, 0, 0), (11, 2147483648, 2147485248), (2, 93, 0), (2, 104, 0), (11, 2147483648, 2147483678), (2, 89, 0), (2, 92, 0), (2, 119, 0), (2, 90, 0), (2, 94, 0), (2, 103, 0), (11, 2147483648, 2147483688), (11, 2147483648, 2147549184), (11, 0, 4294967295), (1, 2, 4294967296), (0, 4, 0), (11, 2147483648, 2147483668), (2, 85, 0), (11, 0, 4294967295), (5, 0, 0), (2, 95, 0), (2, 96, 0), (2, 97, 0), (2, 98, 0), (2, 99, 0), (2, 101, 0), (2, 102, 0), (2, 105, 0), (2, 106, 0), (2, 107, 0), (2, 108, 0), (2, 109, 0), (2, 110, 0), (2, 111, 0), (11, 2147483648, 2147484768), (11, 2147482048, 2147483655), (11, 2147483648, 2147483738), (11, 2147483648, 2147483678), (11, 0, 4294967295), (11, 0, 4294967295), (11, 0, 4294967295), (11, 0, 4294967295), (11, 0, 4294967295), (2, 113, 0), (2, 116, 0), (2, 117, 0), (2, 121, 0), (11, 0, 4294967295), (11, 0, 4294967295), (2, 124, 0), (2, 125, 0), (11, 0, 4294967295), (2, 126, 0), (2, 127, 0), (2, 128, 0), (2, 129, 0), (2, 130, 0)])
def bn2892 : e2_Q1 := (bc254, bc3)
def bn2893 : e2_Q2 := (bn196, bn2892)
def bn2894 : e2_Q3 := (bn2893, bn201)
def bn2895 : e2_Q4 := (bn1402, bn2894)
def bn2896 : e2_Q5 := (bn2895, bn1732)
def bn2897 : e2_Q6 := (bn2896, bn1734)
def bn2898 : e2_Q7 := (bn1730, bn2897)
def bn2899 : e2_Q8 := (bn2711, bn2898)
noncomputable def h_b489_37 : ev_H := (bn2899 : e2_Q8)
def al_b489_38 : List ev_V := [(2, 83, 0), (11, 2147483648, 2147485248)]
def E_b489_38 : e2_E := [(2147483648, 2147583648, 0, 0), (2147483648, 2147483656, 1, 0), (2147483648, 2147485249, 2, 0)]
def bn2900 : e2_Q7 := (bn1796, bn2897)
def bn2901 : e2_Q8 := (bn2719, bn2900)
noncomputable def h_b489_38 : ev_H := (bn2901 : e2_Q8)
def al_b489_39 : List ev_V := [(2, 83, 0), (11, 2147483648, 2147485248)]
def E_b489_39 : e2_E := [(2147483648, 2147583648, 0, 0), (2147483648, 2147483656, 1, 0), (2147483648, 2147485249, 2, 0)]
def bn2902 : e2_Q7 := (bn1912, bn2897)
def bn2903 : e2_Q8 := (bn2724, bn2902)
noncomputable def h_b489_39 : ev_H := (bn2903 : e2_Q8)
def al_b489_40 : List ev_V := [(2, 83, 0), (11, 2147483648, 2147485248)]
def E_b489_40 : e2_E := [(2147483648, 2147583648, 0, 0), (2147483648, 2147483656, 1, 0), (2147483648, 2147485249, 2, 0)]
def bn2904 : e2_Q7 := (bn2026, bn2897)
def bn2905 : e2_Q8 := (bn2729, bn2904)
noncomputable def h_b489_40 : ev_H := (bn2905 : e2_Q8)
def al_b489_41 : List ev_V := [(2, 83, 0), (11, 2147483648, 2147485248)]
def E_b489_41 : e2_E := [(2147483648, 2147583648, 0, 0), (2147483648, 2147483656, 1, 0), (2147483648, 2147485249, 2, 0)]
def bn2906 : e2_Q7 := (bn2140, bn2897)
def bn2907 : e2_Q8 := (bn2734, bn2906)
noncomputable def h_b489_41 : ev_H := (bn2907 : e2_Q8)
def al_b489_42 : List ev_V := [(2, 83, 0), (11, 2147483648, 2147485248)]
def E_b489_42 : e2_E := [(2147483648, 2147583648, 0, 0), (2147483648, 2147483656, 1, 0), (2147483648, 2147485249, 2, 0)]
def bn2908 : e2_Q7 := (bn2254, bn2897)
def bn2909 : e2_Q8 := (bn2739, bn2908)
noncomputable def h_b489_42 : ev_H := (bn2909 : e2_Q8)
def al_b489_43 : List ev_V := [(2, 83, 0), (11, 2147483648, 2147485248)]
def E_b489_43 : e2_E := [(2147483648, 2147583648, 0, 0), (2147483648, 2147483656, 1, 0), (2147483648, 2147485249, 2, 0)]
def bn2910 : e2_Q7 := (bn2368, bn2897)
def bn2911 : e2_Q8 := (bn2744, bn2910)
noncomputable def h_b489_43 : ev_H := (bn2911 : e2_Q8)
def al_b489_44 : List ev_V := [(2, 83, 0), (11, 2147483648, 2147485248)]
def E_b489_44 : e2_E := [(2147483648, 2147583648, 0, 0), (2147483648, 2147483656, 1, 0), (2147483648, 2147485249, 2, 0)]
def bn2912 : e2_Q7 := (bn2482, bn2897)
def bn2913 : e2_Q8 := (bn2749, bn2912)
noncomputable def h_b489_44 : ev_H := (bn2913 : e2_Q8)
def al_b489_45 : List ev_V := [(2, 83, 0), (11, 2147483648, 2147485248)]
def E_b489_45 : e2_E := [(2147483648, 2147583648, 0, 0), (2147483648, 2147483656, 1, 0), (2147483648, 2147485249, 2, 0)]
def bn2914 : e2_Q7 := (bn2596, bn2897)
def bn2915 : e2_Q8 := (bn2754, bn2914)
noncomputable def h_b489_45 : ev_H := (bn2915 : e2_Q8)
def al_b489_55 : List ev_V := [(2, 83, 0), (11, 2147483648, 2147485248)]
def E_b489_55 : e2_E := [(2147483648, 2147583648, 0, 0), (2147483648, 2147483656, 1, 0), (2147483648, 2147485249, 2, 0)]
def bc255 : ev_C := (10, [(0, 0, 0), (2, 88, 0), (2, 115, 0), (2, 114, 0), (2, 86, 0), (2, 112, 0), (11, 2147483648, 2147483688), (2, 118, 0), (2, 120, 0), (2, 131, 0), (2, 91, 0), (11, 2147483648, 2147483668), (2, 123, 0), (0, 1, 0), (11, 2147483648, 2147485248), (2, 87, 0), (2, 84, 0), (2, 122, 0), (2, 100, 0), (2, 132, 0), (11, 2147483648, 2147483668), (11, 2147483648, 2147485248), (1, 0, 4294967296), (0, 0, 0), (11, 2147483648, 2147485248), (2, 93, 0), (2, 104, 0), (11, 2147483648, 2147483678), (2, 89, 0), (2, 92, 0), (2, 119, 0), (2, 90, 0), (2, 94, 0), (2, 103, 0), (11, 2147483648, 2147483688), (11, 2147483648, 2147549184), (11, 0, 4294967295), (1, 2, 4294967296), (0, 5, 0), (11, 2147483648, 2147483668), (2, 85, 0), (11, 0, 4294967295), (5, 0, 0), (2, 95, 0), (2, 96, 0), (2, 97, 0), (2, 98, 0), (2, 99, 0), (2, 101, 0), (2, 102, 0), (2, 105, 0), (2, 106, 0), (2, 107, 0), (2, 108, 0), (2, 109, 0), (2, 110, 0), (2, 111, 0), (11, 2147483648, 2147484768), (11, 2147482048, 2147483655), (11, 2147483648, 2147483738), (11, 2147483648, 2147483678), (11, 0, 4294967295), (11, 0, 4294967295), (11, 0, 4294967295), (11, 0, 4294967295), (11, 0, 4294967295), (2, 113, 0), (2, 116, 0), (2, 117, 0), (2, 121, 0), (11, 0, 4294967295), (11, 0, 4294967295), (2, 124, 0), (2, 125, 0), (11, 0, 4294967295), (2, 126, 0), (2, 127, 0), (2, 128, 0), (2, 129, 0), (2, 130, 0)])
def bn2916 : e2_Q1 := (bc255, bc3)
def bn2917 : e2_Q2 := (bn196, bn2916)
def bn2918 : e2_Q3 := (bn2917, bn201)
def bn2919 : e2_Q4 := (bn1402, bn2918)
def bn2920 : e2_Q5 := (bn2919, bn1732)
def bn2921 : e2_Q6 := (bn2920, bn1734)
def bn2922 : e2_Q7 := (bn1730, bn2921)
def bn2923 : e2_Q8 := (bn2711, bn2922)
noncomputable def h_b489_55 : ev_H := (bn2923 : e2_Q8)
def al_b489_56 : List ev_V := [(2, 83, 0), (11, 2147483648, 2147485248)]
def E_b489_56 : e2_E := [(2147483648, 2147583648, 0, 0), (2147483648, 2147483656, 1, 0), (2147483648, 2147485249, 2, 0)]
def bn2924 : e2_Q7 := (bn1796, bn2921)
def bn2925 : e2_Q8 := (bn2719, bn2924)
noncomputable def h_b489_56 : ev_H := (bn2925 : e2_Q8)
def al_b489_57 : List ev_V := [(2, 83, 0), (11, 2147483648, 2147485248)]
def E_b489_57 : e2_E := [(2147483648, 2147583648, 0, 0), (2147483648, 2147483656, 1, 0), (2147483648, 2147485249, 2, 0)]
def bn2926 : e2_Q7 := (bn1912, bn2921)
def bn2927 : e2_Q8 := (bn2724, bn2926)
noncomputable def h_b489_57 : ev_H := (bn2927 : e2_Q8)
def al_b489_58 : List ev_V := [(2, 83, 0), (11, 2147483648, 2147485248)]
def E_b489_58 : e2_E := [(2147483648, 2147583648, 0, 0), (2147483648, 2147483656, 1, 0), (2147483648, 2147485249, 2, 0)]
def bn2928 : e2_Q7 := (bn2026, bn2921)
def bn2929 : e2_Q8 := (bn2729, bn2928)
noncomputable def h_b489_58 : ev_H := (bn2929 : e2_Q8)
def al_b489_59 : List ev_V := [(2, 83, 0), (11, 2147483648, 2147485248)]
def E_b489_59 : e2_E := [(2147483648, 2147583648, 0, 0), (2147483648, 2147483656, 1, 0), (2147483648, 2147485249, 2, 0)]
def bn2930 : e2_Q7 := (bn2140, bn2921)
def bn2931 : e2_Q8 := (bn2734, bn2930)
noncomputable def h_b489_59 : ev_H := (bn2931 : e2_Q8)
def al_b489_60 : List ev_V := [(2, 83, 0), (11, 2147483648, 2147485248)]
def E_b489_60 : e2_E := [(2147483648, 2147583648, 0, 0), (2147483648, 2147483656, 1, 0), (2147483648, 2147485249, 2, 0)]
def bn2932 : e2_Q7 := (bn2254, bn2921)
def bn2933 : e2_Q8 := (bn2739, bn2932)
noncomputable def h_b489_60 : ev_H := (bn2933 : e2_Q8)
def al_b489_61 : List ev_V := [(2, 83, 0), (11, 2147483648, 2147485248)]
def E_b489_61 : e2_E := [(2147483648, 2147583648, 0, 0), (2147483648, 2147483656, 1, 0), (2147483648, 2147485249, 2, 0)]
def bn2934 : e2_Q7 := (bn2368, bn2921)
def bn2935 : e2_Q8 := (bn2744, bn2934)
noncomputable def h_b489_61 : ev_H := (bn2935 : e2_Q8)
def al_b489_62 : List ev_V := [(2, 83, 0), (11, 2147483648, 2147485248)]
def E_b489_62 : e2_E := [(2147483648, 2147583648, 0, 0), (2147483648, 2147483656, 1, 0), (2147483648, 2147485249, 2, 0)]
def bn2936 : e2_Q7 := (bn2482, bn2921)
def bn2937 : e2_Q8 := (bn2749, bn2936)
noncomputable def h_b489_62 : ev_H := (bn2937 : e2_Q8)
def al_b489_63 : List ev_V := [(2, 83, 0), (11, 2147483648, 2147485248)]
def E_b489_63 : e2_E := [(2147483648, 2147583648, 0, 0), (2147483648, 2147483656, 1, 0), (2147483648, 2147485249, 2, 0)]
def bn2938 : e2_Q7 := (bn2596, bn2921)
def bn2939 : e2_Q8 := (bn2754, bn2938)
noncomputable def h_b489_63 : ev_H := (bn2939 : e2_Q8)
def al_b489_73 : List ev_V := [(2, 83, 0), (11, 2147483648, 2147485248)]
def E_b489_73 : e2_E := [(2147483648, 2147583648, 0, 0), (2147483648, 2147483656, 1, 0), (2147483648, 2147485249, 2, 0)]
def bc256 : ev_C := (10, [(0, 0, 0), (2, 88, 0), (2, 115, 0), (2, 114, 0), (2, 86, 0), (2, 112, 0), (11, 2147483648, 2147483688), (2, 118, 0), (2, 120, 0), (2, 131, 0), (2, 91, 0), (11, 2147483648, 2147483668), (2, 123, 0), (0, 1, 0), (11, 2147483648, 2147485248), (2, 87, 0), (2, 84, 0), (2, 122, 0), (2, 100, 0), (2, 132, 0), (11, 2147483648, 2147483668), (11, 2147483648, 2147485248), (1, 0, 4294967296), (0, 0, 0), (11, 2147483648, 2147485248), (2, 93, 0), (2, 104, 0), (11, 2147483648, 2147483678), (2, 89, 0), (2, 92, 0), (2, 119, 0), (2, 90, 0), (2, 94, 0), (2, 103, 0), (11, 2147483648, 2147483688), (11, 2147483648, 2147549184), (11, 0, 4294967295), (1, 2, 4294967296), (11, 2147483650, 2147483651), (11, 2147483648, 2147483668), (2, 85, 0), (11, 0, 4294967295), (5, 0, 0), (2, 95, 0), (2, 96, 0), (2, 97, 0), (2, 98, 0), (2, 99, 0), (2, 101, 0), (2, 102, 0), (2, 105, 0), (2, 106, 0), (2, 107, 0), (2, 108, 0), (2, 109, 0), (2, 110, 0), (2, 111, 0), (11, 2147483648, 2147484768), (11, 2147482048, 2147483655), (11, 2147483648, 2147483738), (11, 2147483648, 2147483678), (11, 0, 4294967295), (11, 0, 4294967295), (11, 0, 4294967295), (11, 0, 4294967295), (11, 0, 4294967295), (2, 113, 0), (2, 116, 0), (2, 117, 0), (2, 121, 0), (11, 0, 4294967295), (11, 0, 4294967295), (2, 124, 0), (2, 125, 0), (11, 0, 4294967295), (2, 126, 0), (2, 127, 0), (2, 128, 0), (2, 129, 0), (2, 130, 0)])
def bn2940 : e2_Q1 := (bc256, bc3)
def bn2941 : e2_Q2 := (bn196, bn2940)
def bn2942 : e2_Q3 := (bn2941, bn201)
def bn2943 : e2_Q4 := (bn1402, bn2942)
def bn2944 : e2_Q5 := (bn2943, bn1732)
def bn2945 : e2_Q6 := (bn2944, bn1734)
def bn2946 : e2_Q7 := (bn1730, bn2945)
def bn2947 : e2_Q8 := (bn2711, bn2946)
noncomputable def h_b489_73 : ev_H := (bn2947 : e2_Q8)
def al_b489_74 : List ev_V := [(2, 83, 0), (11, 2147483648, 2147485248)]
def E_b489_74 : e2_E := [(2147483648, 2147583648, 0, 0), (2147483648, 2147483656, 1, 0), (2147483648, 2147485249, 2, 0)]
def bn2948 : e2_Q7 := (bn1796, bn2945)
def bn2949 : e2_Q8 := (bn2719, bn2948)
noncomputable def h_b489_74 : ev_H := (bn2949 : e2_Q8)
def al_b489_75 : List ev_V := [(2, 83, 0), (11, 2147483648, 2147485248)]
def E_b489_75 : e2_E := [(2147483648, 2147583648, 0, 0), (2147483648, 2147483656, 1, 0), (2147483648, 2147485249, 2, 0)]
def bn2950 : e2_Q7 := (bn1912, bn2945)
def bn2951 : e2_Q8 := (bn2724, bn2950)
noncomputable def h_b489_75 : ev_H := (bn2951 : e2_Q8)
def al_b489_76 : List ev_V := [(2, 83, 0), (11, 2147483648, 2147485248)]
def E_b489_76 : e2_E := [(2147483648, 2147583648, 0, 0), (2147483648, 2147483656, 1, 0), (2147483648, 2147485249, 2, 0)]
def bn2952 : e2_Q7 := (bn2026, bn2945)
def bn2953 : e2_Q8 := (bn2729, bn2952)
noncomputable def h_b489_76 : ev_H := (bn2953 : e2_Q8)
def al_b489_77 : List ev_V := [(2, 83, 0), (11, 2147483648, 2147485248)]
def E_b489_77 : e2_E := [(2147483648, 2147583648, 0, 0), (2147483648, 2147483656, 1, 0), (2147483648, 2147485249, 2, 0)]
def bn2954 : e2_Q7 := (bn2140, bn2945)
def bn2955 : e2_Q8 := (bn2734, bn2954)
noncomputable def h_b489_77 : ev_H := (bn2955 : e2_Q8)
def al_b489_78 : List ev_V := [(2, 83, 0), (11, 2147483648, 2147485248)]
def E_b489_78 : e2_E := [(2147483648, 2147583648, 0, 0), (2147483648, 2147483656, 1, 0), (2147483648, 2147485249, 2, 0)]
def bn2956 : e2_Q7 := (bn2254, bn2945)
def bn2957 : e2_Q8 := (bn2739, bn2956)
noncomputable def h_b489_78 : ev_H := (bn2957 : e2_Q8)
def al_b489_79 : List ev_V := [(2, 83, 0), (11, 2147483648, 2147485248)]
def E_b489_79 : e2_E := [(2147483648, 2147583648, 0, 0), (2147483648, 2147483656, 1, 0), (2147483648, 2147485249, 2, 0)]
def bn2958 : e2_Q7 := (bn2368, bn2945)
def bn2959 : e2_Q8 := (bn2744, bn2958)
noncomputable def h_b489_79 : ev_H := (bn2959 : e2_Q8)
def al_b489_80 : List ev_V := [(2, 83, 0), (11, 2147483648, 2147485248)]
def E_b489_80 : e2_E := [(2147483648, 2147583648, 0, 0), (2147483648, 2147483656, 1, 0), (2147483648, 2147485249, 2, 0)]
def bn2960 : e2_Q7 := (bn2482, bn2945)
def bn2961 : e2_Q8 := (bn2749, bn2960)
noncomputable def h_b489_80 : ev_H := (bn2961 : e2_Q8)
def al_b489_81 : List ev_V := [(2, 83, 0), (11, 2147483648, 2147485248)]
def E_b489_81 : e2_E := [(2147483648, 2147583648, 0, 0), (2147483648, 2147483656, 1, 0), (2147483648, 2147485249, 2, 0)]
def bn2962 : e2_Q7 := (bn2596, bn2945)
def bn2963 : e2_Q8 := (bn2754, bn2962)
noncomputable def h_b489_81 : ev_H := (bn2963 : e2_Q8)
noncomputable def cl_b489_e : List (Nat × e2_S) := [(20, e2_cutL (al_b489_0.set 1 (11, 2147483648, 2147485248)) 2 (E_b489_0.take 2) h_b489_0)]
set_option maxRecDepth 1000000 in
theorem ck_b489_e : e2_run (e2_cal S_b489 I_b489 4000 1) (e2_fin rs_b489) e2x_185 (e2_bpL cl_b489_e) (e2_cutA cl_b489_e) 4000 (e2_seek e2x_185 0) (e2_al 2 as_b489) [] E_b489 f_b489 = true := by decide +kernel
noncomputable def cl_b489_0 : List (Nat × e2_S) := [(20, e2_cutL (al_b489_0.set 1 (13, 10, 2147485248)) 2 (E_b489_0.take 2) h_b489_0),
  (74, e2_cutS cn_b489_1),
  (74, e2_cutL al_b489_19 2 (E_b489_19.take 2) (ev_hs h_b489_19 83 ((ev_hg h_b489_19 83).1, (ev_hg h_b489_19 83).2.set 37 (11, 2147483648, 2147485249)))),
  (74, e2_cutL al_b489_37 2 (E_b489_37.take 2) (ev_hs h_b489_37 83 ((ev_hg h_b489_37 83).1, (ev_hg h_b489_37 83).2.set 37 (11, 2147483648, 2147485249)))),
  (74, e2_cutL al_b489_55 2 (E_b489_55.take 2) (ev_hs h_b489_55 83 ((ev_hg h_b489_55 83).1, (ev_hg h_b489_55 83).2.set 37 (11, 2147483648, 2147485249)))),
  (74, e2_cutL al_b489_73 2 (E_b489_73.take 2) (ev_hs h_b489_73 83 ((ev_hg h_b489_73 83).1, (ev_hg h_b489_73 83).2.set 37 (11, 2147483648, 2147485249))))]
set_option maxRecDepth 1000000 in
theorem ck_b489_0 : e2_runM (e2_cal S_b489 I_b489 4000 1) (e2_fin rs_b489) e2x_185 (e2_bpL cl_b489_0) (e2_cutA cl_b489_0) 4000 (e2_seek e2x_185 20) al_b489_0 [] E_b489_0 h_b489_0 = true := by decide +kernel
set_option maxRecDepth 1000000 in
theorem ci_b489_0 : e2_idl 2 (al_b489_0.set 1 (9, 0, 0)) = true := by decide +kernel
set_option maxRecDepth 1000000 in
theorem cj_b489_0 : e2_idh 2 8 h_b489_0 = true := by decide +kernel
noncomputable def cl_b489_19 : List (Nat × e2_S) := [(74, e2_cutS cn_b489_28)]
set_option maxRecDepth 1000000 in
theorem ck_b489_19 : e2_runM (e2_cal S_b489 I_b489 4000 1) (e2_fin rs_b489) e2x_185 (e2_bpL cl_b489_19) (e2_cutA cl_b489_19) 4000 (e2_seek e2x_185 74) al_b489_19 [] E_b489_19 h_b489_19 = true := by decide +kernel
set_option maxRecDepth 1000000 in
theorem ci_b489_19 : e2_idl 2 al_b489_19 = true := by decide +kernel
set_option maxRecDepth 1000000 in
theorem cj_b489_19 : e2_idh 2 8 (ev_hs h_b489_19 83 ((ev_hg h_b489_19 83).1, (ev_hg h_b489_19 83).2.set 37 (7, 0, 0))) = true := by decide +kernel
set_option maxRecDepth 1000000 in
theorem cg_b489_19 : (ev_hg h_b489_19 83).1 < 50 ∧ (ev_hg h_b489_19 83).2[37]? = some (1, 2, 4294967296) := by decide +kernel
noncomputable def cl_b489_20 : List (Nat × e2_S) := [(74, e2_cutS cn_b489_29)]
set_option maxRecDepth 1000000 in
theorem ck_b489_20 : e2_runM (e2_cal S_b489 I_b489 4000 1) (e2_fin rs_b489) e2x_185 (e2_bpL cl_b489_20) (e2_cutA cl_b489_20) 4000 (e2_seek e2x_185 74) al_b489_20 [] E_b489_20 h_b489_20 = true := by decide +kernel
set_option maxRecDepth 1000000 in
theorem ci_b489_20 : e2_idl 2 al_b489_20 = true := by decide +kernel
set_option maxRecDepth 1000000 in
theorem cj_b489_20 : e2_idh 2 8 (ev_hs h_b489_20 83 ((ev_hg h_b489_20 83).1, (ev_hg h_b489_20 83).2.set 37 (7, 0, 0))) = true := by decide +kernel
set_option maxRecDepth 1000000 in
theorem cg_b489_20 : (ev_hg h_b489_20 83).1 < 50 ∧ (ev_hg h_b489_20 83).2[37]? = some (1, 2, 4294967296) := by decide +kernel
noncomputable def cl_b489_21 : List (Nat × e2_S) := [(74, e2_cutS cn_b489_30)]
set_option maxRecDepth 1000000 in
theorem ck_b489_21 : e2_runM (e2_cal S_b489 I_b489 4000 1) (e2_fin rs_b489) e2x_185 (e2_bpL cl_b489_21) (e2_cutA cl_b489_21) 4000 (e2_seek e2x_185 74) al_b489_21 [] E_b489_21 h_b489_21 = true := by decide +kernel
set_option maxRecDepth 1000000 in
theorem ci_b489_21 : e2_idl 2 al_b489_21 = true := by decide +kernel
set_option maxRecDepth 1000000 in
theorem cj_b489_21 : e2_idh 2 8 (ev_hs h_b489_21 83 ((ev_hg h_b489_21 83).1, (ev_hg h_b489_21 83).2.set 37 (7, 0, 0))) = true := by decide +kernel
set_option maxRecDepth 1000000 in
theorem cg_b489_21 : (ev_hg h_b489_21 83).1 < 50 ∧ (ev_hg h_b489_21 83).2[37]? = some (1, 2, 4294967296) := by decide +kernel
noncomputable def cl_b489_22 : List (Nat × e2_S) := [(74, e2_cutS cn_b489_31)]
set_option maxRecDepth 1000000 in
theorem ck_b489_22 : e2_runM (e2_cal S_b489 I_b489 4000 1) (e2_fin rs_b489) e2x_185 (e2_bpL cl_b489_22) (e2_cutA cl_b489_22) 4000 (e2_seek e2x_185 74) al_b489_22 [] E_b489_22 h_b489_22 = true := by decide +kernel
set_option maxRecDepth 1000000 in
theorem ci_b489_22 : e2_idl 2 al_b489_22 = true := by decide +kernel
set_option maxRecDepth 1000000 in
theorem cj_b489_22 : e2_idh 2 8 (ev_hs h_b489_22 83 ((ev_hg h_b489_22 83).1, (ev_hg h_b489_22 83).2.set 37 (7, 0, 0))) = true := by decide +kernel
set_option maxRecDepth 1000000 in
theorem cg_b489_22 : (ev_hg h_b489_22 83).1 < 50 ∧ (ev_hg h_b489_22 83).2[37]? = some (1, 2, 4294967296) := by decide +kernel
noncomputable def cl_b489_23 : List (Nat × e2_S) := [(74, e2_cutS cn_b489_32)]
set_option maxRecDepth 1000000 in
theorem ck_b489_23 : e2_runM (e2_cal S_b489 I_b489 4000 1) (e2_fin rs_b489) e2x_185 (e2_bpL cl_b489_23) (e2_cutA cl_b489_23) 4000 (e2_seek e2x_185 74) al_b489_23 [] E_b489_23 h_b489_23 = true := by decide +kernel
set_option maxRecDepth 1000000 in
theorem ci_b489_23 : e2_idl 2 al_b489_23 = true := by decide +kernel
set_option maxRecDepth 1000000 in
theorem cj_b489_23 : e2_idh 2 8 (ev_hs h_b489_23 83 ((ev_hg h_b489_23 83).1, (ev_hg h_b489_23 83).2.set 37 (7, 0, 0))) = true := by decide +kernel
set_option maxRecDepth 1000000 in
theorem cg_b489_23 : (ev_hg h_b489_23 83).1 < 50 ∧ (ev_hg h_b489_23 83).2[37]? = some (1, 2, 4294967296) := by decide +kernel
noncomputable def cl_b489_24 : List (Nat × e2_S) := [(74, e2_cutS cn_b489_33)]
set_option maxRecDepth 1000000 in
theorem ck_b489_24 : e2_runM (e2_cal S_b489 I_b489 4000 1) (e2_fin rs_b489) e2x_185 (e2_bpL cl_b489_24) (e2_cutA cl_b489_24) 4000 (e2_seek e2x_185 74) al_b489_24 [] E_b489_24 h_b489_24 = true := by decide +kernel
set_option maxRecDepth 1000000 in
theorem ci_b489_24 : e2_idl 2 al_b489_24 = true := by decide +kernel
set_option maxRecDepth 1000000 in
theorem cj_b489_24 : e2_idh 2 8 (ev_hs h_b489_24 83 ((ev_hg h_b489_24 83).1, (ev_hg h_b489_24 83).2.set 37 (7, 0, 0))) = true := by decide +kernel
set_option maxRecDepth 1000000 in
theorem cg_b489_24 : (ev_hg h_b489_24 83).1 < 50 ∧ (ev_hg h_b489_24 83).2[37]? = some (1, 2, 4294967296) := by decide +kernel
noncomputable def cl_b489_25 : List (Nat × e2_S) := [(74, e2_cutS cn_b489_34)]
set_option maxRecDepth 1000000 in
theorem ck_b489_25 : e2_runM (e2_cal S_b489 I_b489 4000 1) (e2_fin rs_b489) e2x_185 (e2_bpL cl_b489_25) (e2_cutA cl_b489_25) 4000 (e2_seek e2x_185 74) al_b489_25 [] E_b489_25 h_b489_25 = true := by decide +kernel
set_option maxRecDepth 1000000 in
theorem ci_b489_25 : e2_idl 2 al_b489_25 = true := by decide +kernel
set_option maxRecDepth 1000000 in
theorem cj_b489_25 : e2_idh 2 8 (ev_hs h_b489_25 83 ((ev_hg h_b489_25 83).1, (ev_hg h_b489_25 83).2.set 37 (7, 0, 0))) = true := by decide +kernel
set_option maxRecDepth 1000000 in
theorem cg_b489_25 : (ev_hg h_b489_25 83).1 < 50 ∧ (ev_hg h_b489_25 83).2[37]? = some (1, 2, 4294967296) := by decide +kernel
noncomputable def cl_b489_26 : List (Nat × e2_S) := [(74, e2_cutS cn_b489_35)]
set_option maxRecDepth 1000000 in
theorem ck_b489_26 : e2_runM (e2_cal S_b489 I_b489 4000 1) (e2_fin rs_b489) e2x_185 (e2_bpL cl_b489_26) (e2_cutA cl_b489_26) 4000 (e2_seek e2x_185 74) al_b489_26 [] E_b489_26 h_b489_26 = true := by decide +kernel
set_option maxRecDepth 1000000 in
theorem ci_b489_26 : e2_idl 2 al_b489_26 = true := by decide +kernel
set_option maxRecDepth 1000000 in
theorem cj_b489_26 : e2_idh 2 8 (ev_hs h_b489_26 83 ((ev_hg h_b489_26 83).1, (ev_hg h_b489_26 83).2.set 37 (7, 0, 0))) = true := by decide +kernel
set_option maxRecDepth 1000000 in
theorem cg_b489_26 : (ev_hg h_b489_26 83).1 < 50 ∧ (ev_hg h_b489_26 83).2[37]? = some (1, 2, 4294967296) := by decide +kernel
noncomputable def cl_b489_27 : List (Nat × e2_S) := [(74, e2_cutS cn_b489_36)]
set_option maxRecDepth 1000000 in
theorem ck_b489_27 : e2_runM (e2_cal S_b489 I_b489 4000 1) (e2_fin rs_b489) e2x_185 (e2_bpL cl_b489_27) (e2_cutA cl_b489_27) 4000 (e2_seek e2x_185 74) al_b489_27 [] E_b489_27 h_b489_27 = true := by decide +kernel
set_option maxRecDepth 1000000 in
theorem ci_b489_27 : e2_idl 2 al_b489_27 = true := by decide +kernel
set_option maxRecDepth 1000000 in
theorem cj_b489_27 : e2_idh 2 8 (ev_hs h_b489_27 83 ((ev_hg h_b489_27 83).1, (ev_hg h_b489_27 83).2.set 37 (7, 0, 0))) = true := by decide +kernel
set_option maxRecDepth 1000000 in
theorem cg_b489_27 : (ev_hg h_b489_27 83).1 < 50 ∧ (ev_hg h_b489_27 83).2[37]? = some (1, 2, 4294967296) := by decide +kernel
noncomputable def cl_b489_37 : List (Nat × e2_S) := [(74, e2_cutS cn_b489_46)]
set_option maxRecDepth 1000000 in
theorem ck_b489_37 : e2_runM (e2_cal S_b489 I_b489 4000 1) (e2_fin rs_b489) e2x_185 (e2_bpL cl_b489_37) (e2_cutA cl_b489_37) 4000 (e2_seek e2x_185 74) al_b489_37 [] E_b489_37 h_b489_37 = true := by decide +kernel
set_option maxRecDepth 1000000 in
theorem ci_b489_37 : e2_idl 2 al_b489_37 = true := by decide +kernel
set_option maxRecDepth 1000000 in
theorem cj_b489_37 : e2_idh 2 8 (ev_hs h_b489_37 83 ((ev_hg h_b489_37 83).1, (ev_hg h_b489_37 83).2.set 37 (7, 0, 0))) = true := by decide +kernel
set_option maxRecDepth 1000000 in
theorem cg_b489_37 : (ev_hg h_b489_37 83).1 < 50 ∧ (ev_hg h_b489_37 83).2[37]? = some (1, 2, 4294967296) := by decide +kernel
noncomputable def cl_b489_38 : List (Nat × e2_S) := [(74, e2_cutS cn_b489_47)]
set_option maxRecDepth 1000000 in
theorem ck_b489_38 : e2_runM (e2_cal S_b489 I_b489 4000 1) (e2_fin rs_b489) e2x_185 (e2_bpL cl_b489_38) (e2_cutA cl_b489_38) 4000 (e2_seek e2x_185 74) al_b489_38 [] E_b489_38 h_b489_38 = true := by decide +kernel
set_option maxRecDepth 1000000 in
theorem ci_b489_38 : e2_idl 2 al_b489_38 = true := by decide +kernel
set_option maxRecDepth 1000000 in
theorem cj_b489_38 : e2_idh 2 8 (ev_hs h_b489_38 83 ((ev_hg h_b489_38 83).1, (ev_hg h_b489_38 83).2.set 37 (7, 0, 0))) = true := by decide +kernel
set_option maxRecDepth 1000000 in
theorem cg_b489_38 : (ev_hg h_b489_38 83).1 < 50 ∧ (ev_hg h_b489_38 83).2[37]? = some (1, 2, 4294967296) := by decide +kernel
noncomputable def cl_b489_39 : List (Nat × e2_S) := [(74, e2_cutS cn_b489_48)]
set_option maxRecDepth 1000000 in
theorem ck_b489_39 : e2_runM (e2_cal S_b489 I_b489 4000 1) (e2_fin rs_b489) e2x_185 (e2_bpL cl_b489_39) (e2_cutA cl_b489_39) 4000 (e2_seek e2x_185 74) al_b489_39 [] E_b489_39 h_b489_39 = true := by decide +kernel
set_option maxRecDepth 1000000 in
theorem ci_b489_39 : e2_idl 2 al_b489_39 = true := by decide +kernel
set_option maxRecDepth 1000000 in
theorem cj_b489_39 : e2_idh 2 8 (ev_hs h_b489_39 83 ((ev_hg h_b489_39 83).1, (ev_hg h_b489_39 83).2.set 37 (7, 0, 0))) = true := by decide +kernel
set_option maxRecDepth 1000000 in
theorem cg_b489_39 : (ev_hg h_b489_39 83).1 < 50 ∧ (ev_hg h_b489_39 83).2[37]? = some (1, 2, 4294967296) := by decide +kernel
noncomputable def cl_b489_40 : List (Nat × e2_S) := [(74, e2_cutS cn_b489_49)]
set_option maxRecDepth 1000000 in
theorem ck_b489_40 : e2_runM (e2_cal S_b489 I_b489 4000 1) (e2_fin rs_b489) e2x_185 (e2_bpL cl_b489_40) (e2_cutA cl_b489_40) 4000 (e2_seek e2x_185 74) al_b489_40 [] E_b489_40 h_b489_40 = true := by decide +kernel
set_option maxRecDepth 1000000 in
theorem ci_b489_40 : e2_idl 2 al_b489_40 = true := by decide +kernel
set_option maxRecDepth 1000000 in
theorem cj_b489_40 : e2_idh 2 8 (ev_hs h_b489_40 83 ((ev_hg h_b489_40 83).1, (ev_hg h_b489_40 83).2.set 37 (7, 0, 0))) = true := by decide +kernel
set_option maxRecDepth 1000000 in
theorem cg_b489_40 : (ev_hg h_b489_40 83).1 < 50 ∧ (ev_hg h_b489_40 83).2[37]? = some (1, 2, 4294967296) := by decide +kernel
noncomputable def cl_b489_41 : List (Nat × e2_S) := [(74, e2_cutS cn_b489_50)]
set_option maxRecDepth 1000000 in
theorem ck_b489_41 : e2_runM (e2_cal S_b489 I_b489 4000 1) (e2_fin rs_b489) e2x_185 (e2_bpL cl_b489_41) (e2_cutA cl_b489_41) 4000 (e2_seek e2x_185 74) al_b489_41 [] E_b489_41 h_b489_41 = true := by decide +kernel
set_option maxRecDepth 1000000 in
theorem ci_b489_41 : e2_idl 2 al_b489_41 = true := by decide +kernel
set_option maxRecDepth 1000000 in
theorem cj_b489_41 : e2_idh 2 8 (ev_hs h_b489_41 83 ((ev_hg h_b489_41 83).1, (ev_hg h_b489_41 83).2.set 37 (7, 0, 0))) = true := by decide +kernel
set_option maxRecDepth 1000000 in
theorem cg_b489_41 : (ev_hg h_b489_41 83).1 < 50 ∧ (ev_hg h_b489_41 83).2[37]? = some (1, 2, 4294967296) := by decide +kernel
noncomputable def cl_b489_42 : List (Nat × e2_S) := [(74, e2_cutS cn_b489_51)]
set_option maxRecDepth 1000000 in
theorem ck_b489_42 : e2_runM (e2_cal S_b489 I_b489 4000 1) (e2_fin rs_b489) e2x_185 (e2_bpL cl_b489_42) (e2_cutA cl_b489_42) 4000 (e2_seek e2x_185 74) al_b489_42 [] E_b489_42 h_b489_42 = true := by decide +kernel
set_option maxRecDepth 1000000 in
theorem ci_b489_42 : e2_idl 2 al_b489_42 = true := by decide +kernel
set_option maxRecDepth 1000000 in
theorem cj_b489_42 : e2_idh 2 8 (ev_hs h_b489_42 83 ((ev_hg h_b489_42 83).1, (ev_hg h_b489_42 83).2.set 37 (7, 0, 0))) = true := by decide +kernel
set_option maxRecDepth 1000000 in
theorem cg_b489_42 : (ev_hg h_b489_42 83).1 < 50 ∧ (ev_hg h_b489_42 83).2[37]? = some (1, 2, 4294967296) := by decide +kernel
noncomputable def cl_b489_43 : List (Nat × e2_S) := [(74, e2_cutS cn_b489_52)]
set_option maxRecDepth 1000000 in
theorem ck_b489_43 : e2_runM (e2_cal S_b489 I_b489 4000 1) (e2_fin rs_b489) e2x_185 (e2_bpL cl_b489_43) (e2_cutA cl_b489_43) 4000 (e2_seek e2x_185 74) al_b489_43 [] E_b489_43 h_b489_43 = true := by decide +kernel
set_option maxRecDepth 1000000 in
theorem ci_b489_43 : e2_idl 2 al_b489_43 = true := by decide +kernel
set_option maxRecDepth 1000000 in
theorem cj_b489_43 : e2_idh 2 8 (ev_hs h_b489_43 83 ((ev_hg h_b489_43 83).1, (ev_hg h_b489_43 83).2.set 37 (7, 0, 0))) = true := by decide +kernel
set_option maxRecDepth 1000000 in
theorem cg_b489_43 : (ev_hg h_b489_43 83).1 < 50 ∧ (ev_hg h_b489_43 83).2[37]? = some (1, 2, 4294967296) := by decide +kernel
noncomputable def cl_b489_44 : List (Nat × e2_S) := [(74, e2_cutS cn_b489_53)]
set_option maxRecDepth 1000000 in
theorem ck_b489_44 : e2_runM (e2_cal S_b489 I_b489 4000 1) (e2_fin rs_b489) e2x_185 (e2_bpL cl_b489_44) (e2_cutA cl_b489_44) 4000 (e2_seek e2x_185 74) al_b489_44 [] E_b489_44 h_b489_44 = true := by decide +kernel
set_option maxRecDepth 1000000 in
theorem ci_b489_44 : e2_idl 2 al_b489_44 = true := by decide +kernel
set_option maxRecDepth 1000000 in
theorem cj_b489_44 : e2_idh 2 8 (ev_hs h_b489_44 83 ((ev_hg h_b489_44 83).1, (ev_hg h_b489_44 83).2.set 37 (7, 0, 0))) = true := by decide +kernel
set_option maxRecDepth 1000000 in
theorem cg_b489_44 : (ev_hg h_b489_44 83).1 < 50 ∧ (ev_hg h_b489_44 83).2[37]? = some (1, 2, 4294967296) := by decide +kernel
noncomputable def cl_b489_45 : List (Nat × e2_S) := [(74, e2_cutS cn_b489_54)]
set_option maxRecDepth 1000000 in
theorem ck_b489_45 : e2_runM (e2_cal S_b489 I_b489 4000 1) (e2_fin rs_b489) e2x_185 (e2_bpL cl_b489_45) (e2_cutA cl_b489_45) 4000 (e2_seek e2x_185 74) al_b489_45 [] E_b489_45 h_b489_45 = true := by decide +kernel
set_option maxRecDepth 1000000 in
theorem ci_b489_45 : e2_idl 2 al_b489_45 = true := by decide +kernel
set_option maxRecDepth 1000000 in
theorem cj_b489_45 : e2_idh 2 8 (ev_hs h_b489_45 83 ((ev_hg h_b489_45 83).1, (ev_hg h_b489_45 83).2.set 37 (7, 0, 0))) = true := by decide +kernel
set_option maxRecDepth 1000000 in
theorem cg_b489_45 : (ev_hg h_b489_45 83).1 < 50 ∧ (ev_hg h_b489_45 83).2[37]? = some (1, 2, 4294967296) := by decide +kernel
noncomputable def cl_b489_55 : List (Nat × e2_S) := [(74, e2_cutS cn_b489_64)]
set_option maxRecDepth 1000000 in
theorem ck_b489_55 : e2_runM (e2_cal S_b489 I_b489 4000 1) (e2_fin rs_b489) e2x_185 (e2_bpL cl_b489_55) (e2_cutA cl_b489_55) 4000 (e2_seek e2x_185 74) al_b489_55 [] E_b489_55 h_b489_55 = true := by decide +kernel
set_option maxRecDepth 1000000 in
theorem ci_b489_55 : e2_idl 2 al_b489_55 = true := by decide +kernel
set_option maxRecDepth 1000000 in
theorem cj_b489_55 : e2_idh 2 8 (ev_hs h_b489_55 83 ((ev_hg h_b489_55 83).1, (ev_hg h_b489_55 83).2.set 37 (7, 0, 0))) = true := by decide +kernel
set_option maxRecDepth 1000000 in
theorem cg_b489_55 : (ev_hg h_b489_55 83).1 < 50 ∧ (ev_hg h_b489_55 83).2[37]? = some (1, 2, 4294967296) := by decide +kernel
noncomputable def cl_b489_56 : List (Nat × e2_S) := [(74, e2_cutS cn_b489_65)]
set_option maxRecDepth 1000000 in
theorem ck_b489_56 : e2_runM (e2_cal S_b489 I_b489 4000 1) (e2_fin rs_b489) e2x_185 (e2_bpL cl_b489_56) (e2_cutA cl_b489_56) 4000 (e2_seek e2x_185 74) al_b489_56 [] E_b489_56 h_b489_56 = true := by decide +kernel
set_option maxRecDepth 1000000 in
theorem ci_b489_56 : e2_idl 2 al_b489_56 = true := by decide +kernel
set_option maxRecDepth 1000000 in
theorem cj_b489_56 : e2_idh 2 8 (ev_hs h_b489_56 83 ((ev_hg h_b489_56 83).1, (ev_hg h_b489_56 83).2.set 37 (7, 0, 0))) = true := by decide +kernel
set_option maxRecDepth 1000000 in
theorem cg_b489_56 : (ev_hg h_b489_56 83).1 < 50 ∧ (ev_hg h_b489_56 83).2[37]? = some (1, 2, 4294967296) := by decide +kernel
noncomputable def cl_b489_57 : List (Nat × e2_S) := [(74, e2_cutS cn_b489_66)]
set_option maxRecDepth 1000000 in
theorem ck_b489_57 : e2_runM (e2_cal S_b489 I_b489 4000 1) (e2_fin rs_b489) e2x_185 (e2_bpL cl_b489_57) (e2_cutA cl_b489_57) 4000 (e2_seek e2x_185 74) al_b489_57 [] E_b489_57 h_b489_57 = true := by decide +kernel
set_option maxRecDepth 1000000 in
theorem ci_b489_57 : e2_idl 2 al_b489_57 = true := by decide +kernel
set_option maxRecDepth 1000000 in
theorem cj_b489_57 : e2_idh 2 8 (ev_hs h_b489_57 83 ((ev_hg h_b489_57 83).1, (ev_hg h_b489_57 83).2.set 37 (7, 0, 0))) = true := by decide +kernel
set_option maxRecDepth 1000000 in
theorem cg_b489_57 : (ev_hg h_b489_57 83).1 < 50 ∧ (ev_hg h_b489_57 83).2[37]? = some (1, 2, 4294967296) := by decide +kernel
noncomputable def cl_b489_58 : List (Nat × e2_S) := [(74, e2_cutS cn_b489_67)]
set_option maxRecDepth 1000000 in
theorem ck_b489_58 : e2_runM (e2_cal S_b489 I_b489 4000 1) (e2_fin rs_b489) e2x_185 (e2_bpL cl_b489_58) (e2_cutA cl_b489_58) 4000 (e2_seek e2x_185 74) al_b489_58 [] E_b489_58 h_b489_58 = true := by decide +kernel
set_option maxRecDepth 1000000 in
theorem ci_b489_58 : e2_idl 2 al_b489_58 = true := by decide +kernel
set_option maxRecDepth 1000000 in
theorem cj_b489_58 : e2_idh 2 8 (ev_hs h_b489_58 83 ((ev_hg h_b489_58 83).1, (ev_hg h_b489_58 83).2.set 37 (7, 0, 0))) = true := by decide +kernel
set_option maxRecDepth 1000000 in
theorem cg_b489_58 : (ev_hg h_b489_58 83).1 < 50 ∧ (ev_hg h_b489_58 83).2[37]? = some (1, 2, 4294967296) := by decide +kernel
noncomputable def cl_b489_59 : List (Nat × e2_S) := [(74, e2_cutS cn_b489_68)]
set_option maxRecDepth 1000000 in
theorem ck_b489_59 : e2_runM (e2_cal S_b489 I_b489 4000 1) (e2_fin rs_b489) e2x_185 (e2_bpL cl_b489_59) (e2_cutA cl_b489_59) 4000 (e2_seek e2x_185 74) al_b489_59 [] E_b489_59 h_b489_59 = true := by decide +kernel
set_option maxRecDepth 1000000 in
theorem ci_b489_59 : e2_idl 2 al_b489_59 = true := by decide +kernel
set_option maxRecDepth 1000000 in
theorem cj_b489_59 : e2_idh 2 8 (ev_hs h_b489_59 83 ((ev_hg h_b489_59 83).1, (ev_hg h_b489_59 83).2.set 37 (7, 0, 0))) = true := by decide +kernel
set_option maxRecDepth 1000000 in
theorem cg_b489_59 : (ev_hg h_b489_59 83).1 < 50 ∧ (ev_hg h_b489_59 83).2[37]? = some (1, 2, 4294967296) := by decide +kernel
noncomputable def cl_b489_60 : List (Nat × e2_S) := [(74, e2_cutS cn_b489_69)]
set_option maxRecDepth 1000000 in
theorem ck_b489_60 : e2_runM (e2_cal S_b489 I_b489 4000 1) (e2_fin rs_b489) e2x_185 (e2_bpL cl_b489_60) (e2_cutA cl_b489_60) 4000 (e2_seek e2x_185 74) al_b489_60 [] E_b489_60 h_b489_60 = true := by decide +kernel
set_option maxRecDepth 1000000 in
theorem ci_b489_60 : e2_idl 2 al_b489_60 = true := by decide +kernel
set_option maxRecDepth 1000000 in
theorem cj_b489_60 : e2_idh 2 8 (ev_hs h_b489_60 83 ((ev_hg h_b489_60 83).1, (ev_hg h_b489_60 83).2.set 37 (7, 0, 0))) = true := by decide +kernel
set_option maxRecDepth 1000000 in
theorem cg_b489_60 : (ev_hg h_b489_60 83).1 < 50 ∧ (ev_hg h_b489_60 83).2[37]? = some (1, 2, 4294967296) := by decide +kernel
noncomputable def cl_b489_61 : List (Nat × e2_S) := [(74, e2_cutS cn_b489_70)]
set_option maxRecDepth 1000000 in
theorem ck_b489_61 : e2_runM (e2_cal S_b489 I_b489 4000 1) (e2_fin rs_b489) e2x_185 (e2_bpL cl_b489_61) (e2_cutA cl_b489_61) 4000 (e2_seek e2x_185 74) al_b489_61 [] E_b489_61 h_b489_61 = true := by decide +kernel
set_option maxRecDepth 1000000 in
theorem ci_b489_61 : e2_idl 2 al_b489_61 = true := by decide +kernel
set_option maxRecDepth 1000000 in
theorem cj_b489_61 : e2_idh 2 8 (ev_hs h_b489_61 83 ((ev_hg h_b489_61 83).1, (ev_hg h_b489_61 83).2.set 37 (7, 0, 0))) = true := by decide +kernel
set_option maxRecDepth 1000000 in
theorem cg_b489_61 : (ev_hg h_b489_61 83).1 < 50 ∧ (ev_hg h_b489_61 83).2[37]? = some (1, 2, 4294967296) := by decide +kernel
noncomputable def cl_b489_62 : List (Nat × e2_S) := [(74, e2_cutS cn_b489_71)]
set_option maxRecDepth 1000000 in
theorem ck_b489_62 : e2_runM (e2_cal S_b489 I_b489 4000 1) (e2_fin rs_b489) e2x_185 (e2_bpL cl_b489_62) (e2_cutA cl_b489_62) 4000 (e2_seek e2x_185 74) al_b489_62 [] E_b489_62 h_b489_62 = true := by decide +kernel
set_option maxRecDepth 1000000 in
theorem ci_b489_62 : e2_idl 2 al_b489_62 = true := by decide +kernel
set_option maxRecDepth 1000000 in
theorem cj_b489_62 : e2_idh 2 8 (ev_hs h_b489_62 83 ((ev_hg h_b489_62 83).1, (ev_hg h_b489_62 83).2.set 37 (7, 0, 0))) = true := by decide +kernel
set_option maxRecDepth 1000000 in
theorem cg_b489_62 : (ev_hg h_b489_62 83).1 < 50 ∧ (ev_hg h_b489_62 83).2[37]? = some (1, 2, 4294967296) := by decide +kernel
noncomputable def cl_b489_63 : List (Nat × e2_S) := [(74, e2_cutS cn_b489_72)]
set_option maxRecDepth 1000000 in
theorem ck_b489_63 : e2_runM (e2_cal S_b489 I_b489 4000 1) (e2_fin rs_b489) e2x_185 (e2_bpL cl_b489_63) (e2_cutA cl_b489_63) 4000 (e2_seek e2x_185 74) al_b489_63 [] E_b489_63 h_b489_63 = true := by decide +kernel
set_option maxRecDepth 1000000 in
theorem ci_b489_63 : e2_idl 2 al_b489_63 = true := by decide +kernel
set_option maxRecDepth 1000000 in
theorem cj_b489_63 : e2_idh 2 8 (ev_hs h_b489_63 83 ((ev_hg h_b489_63 83).1, (ev_hg h_b489_63 83).2.set 37 (7, 0, 0))) = true := by decide +kernel
set_option maxRecDepth 1000000 in
theorem cg_b489_63 : (ev_hg h_b489_63 83).1 < 50 ∧ (ev_hg h_b489_63 83).2[37]? = some (1, 2, 4294967296) := by decide +kernel
noncomputable def cl_b489_73 : List (Nat × e2_S) := [(74, e2_cutS cn_b489_1),
  (74, e2_cutS cn_b489_2),
  (74, e2_cutS cn_b489_10),
  (74, e2_cutS cn_b489_11),
  (74, e2_cutL al_b489_19 2 (E_b489_19.take 2) (ev_hs h_b489_19 83 ((ev_hg h_b489_19 83).1, (ev_hg h_b489_19 83).2.set 37 (13, 10, 2147485249)))),
  (74, e2_cutL al_b489_20 2 (E_b489_20.take 2) (ev_hs h_b489_20 83 ((ev_hg h_b489_20 83).1, (ev_hg h_b489_20 83).2.set 37 (13, 10, 2147485249)))),
  (74, e2_cutS cn_b489_28),
  (74, e2_cutS cn_b489_29),
  (74, e2_cutL al_b489_37 2 (E_b489_37.take 2) (ev_hs h_b489_37 83 ((ev_hg h_b489_37 83).1, (ev_hg h_b489_37 83).2.set 37 (13, 10, 2147485249)))),
  (74, e2_cutL al_b489_38 2 (E_b489_38.take 2) (ev_hs h_b489_38 83 ((ev_hg h_b489_38 83).1, (ev_hg h_b489_38 83).2.set 37 (13, 10, 2147485249)))),
  (74, e2_cutS cn_b489_46),
  (74, e2_cutS cn_b489_47),
  (74, e2_cutL al_b489_55 2 (E_b489_55.take 2) (ev_hs h_b489_55 83 ((ev_hg h_b489_55 83).1, (ev_hg h_b489_55 83).2.set 37 (13, 10, 2147485249)))),
  (74, e2_cutL al_b489_56 2 (E_b489_56.take 2) (ev_hs h_b489_56 83 ((ev_hg h_b489_56 83).1, (ev_hg h_b489_56 83).2.set 37 (13, 10, 2147485249)))),
  (74, e2_cutS cn_b489_64),
  (74, e2_cutS cn_b489_65),
  (74, e2_cutL al_b489_73 2 (E_b489_73.take 2) (ev_hs h_b489_73 83 ((ev_hg h_b489_73 83).1, (ev_hg h_b489_73 83).2.set 37 (13, 10, 2147485249)))),
  (74, e2_cutL al_b489_74 2 (E_b489_74.take 2) (ev_hs h_b489_74 83 ((ev_hg h_b489_74 83).1, (ev_hg h_b489_74 83).2.set 37 (13, 10, 2147485249)))),
  (74, e2_cutS cn_b489_82),
  (74, e2_cutS cn_b489_83),
  (74, e2_cutS cn_b489_91),
  (74, e2_cutS cn_b489_92)]
set_option maxRecDepth 1000000 in
theorem ck_b489_73 : e2_runM (e2_cal S_b489 I_b489 4000 1) (e2_fin rs_b489) e2x_185 (e2_bpL cl_b489_73) (e2_cutA cl_b489_73) 4000 (e2_seek e2x_185 74) al_b489_73 [] E_b489_73 h_b489_73 = true := by decide +kernel
set_option maxRecDepth 1000000 in
theorem ci_b489_73 : e2_idl 2 al_b489_73 = true := by decide +kernel
set_option maxRecDepth 1000000 in
theorem cj_b489_73 : e2_idh 2 8 (ev_hs h_b489_73 83 ((ev_hg h_b489_73 83).1, (ev_hg h_b489_73 83).2.set 37 (7, 0, 0))) = true := by decide +kernel
set_option maxRecDepth 1000000 in
theorem cg_b489_73 : (ev_hg h_b489_73 83).1 < 50 ∧ (ev_hg h_b489_73 83).2[37]? = some (1, 2, 4294967296) := by decide +kernel
noncomputable def cl_b489_74 : List (Nat × e2_S) := [(74, e2_cutS cn_b489_2),
  (74, e2_cutS cn_b489_3),
  (74, e2_cutS cn_b489_11),
  (74, e2_cutS cn_b489_12),
  (74, e2_cutL al_b489_20 2 (E_b489_20.take 2) (ev_hs h_b489_20 83 ((ev_hg h_b489_20 83).1, (ev_hg h_b489_20 83).2.set 37 (13, 10, 2147485249)))),
  (74, e2_cutL al_b489_21 2 (E_b489_21.take 2) (ev_hs h_b489_21 83 ((ev_hg h_b489_21 83).1, (ev_hg h_b489_21 83).2.set 37 (13, 10, 2147485249)))),
  (74, e2_cutS cn_b489_29),
  (74, e2_cutS cn_b489_30),
  (74, e2_cutL al_b489_38 2 (E_b489_38.take 2) (ev_hs h_b489_38 83 ((ev_hg h_b489_38 83).1, (ev_hg h_b489_38 83).2.set 37 (13, 10, 2147485249)))),
  (74, e2_cutL al_b489_39 2 (E_b489_39.take 2) (ev_hs h_b489_39 83 ((ev_hg h_b489_39 83).1, (ev_hg h_b489_39 83).2.set 37 (13, 10, 2147485249)))),
  (74, e2_cutS cn_b489_47),
  (74, e2_cutS cn_b489_48),
  (74, e2_cutL al_b489_56 2 (E_b489_56.take 2) (ev_hs h_b489_56 83 ((ev_hg h_b489_56 83).1, (ev_hg h_b489_56 83).2.set 37 (13, 10, 2147485249)))),
  (74, e2_cutL al_b489_57 2 (E_b489_57.take 2) (ev_hs h_b489_57 83 ((ev_hg h_b489_57 83).1, (ev_hg h_b489_57 83).2.set 37 (13, 10, 2147485249)))),
  (74, e2_cutS cn_b489_65),
  (74, e2_cutS cn_b489_66),
  (74, e2_cutL al_b489_74 2 (E_b489_74.take 2) (ev_hs h_b489_74 83 ((ev_hg h_b489_74 83).1, (ev_hg h_b489_74 83).2.set 37 (13, 10, 2147485249)))),
  (74, e2_cutL al_b489_75 2 (E_b489_75.take 2) (ev_hs h_b489_75 83 ((ev_hg h_b489_75 83).1, (ev_hg h_b489_75 83).2.set 37 (13, 10, 2147485249)))),
  (74, e2_cutS cn_b489_83),
  (74, e2_cutS cn_b489_84),
  (74, e2_cutS cn_b489_92),
  (74, e2_cutS cn_b489_93)]
set_option maxRecDepth 1000000 in
theorem ck_b489_74 : e2_runM (e2_cal S_b489 I_b489 4000 1) (e2_fin rs_b489) e2x_185 (e2_bpL cl_b489_74) (e2_cutA cl_b489_74) 4000 (e2_seek e2x_185 74) al_b489_74 [] E_b489_74 h_b489_74 = true := by decide +kernel
set_option maxRecDepth 1000000 in
theorem ci_b489_74 : e2_idl 2 al_b489_74 = true := by decide +kernel
set_option maxRecDepth 1000000 in
theorem cj_b489_74 : e2_idh 2 8 (ev_hs h_b489_74 83 ((ev_hg h_b489_74 83).1, (ev_hg h_b489_74 83).2.set 37 (7, 0, 0))) = true := by decide +kernel
set_option maxRecDepth 1000000 in
theorem cg_b489_74 : (ev_hg h_b489_74 83).1 < 50 ∧ (ev_hg h_b489_74 83).2[37]? = some (1, 2, 4294967296) := by decide +kernel
noncomputable def cl_b489_75 : List (Nat × e2_S) := [(74, e2_cutS cn_b489_3),
  (74, e2_cutS cn_b489_4),
  (74, e2_cutS cn_b489_12),
  (74, e2_cutS cn_b489_13),
  (74, e2_cutL al_b489_21 2 (E_b489_21.take 2) (ev_hs h_b489_21 83 ((ev_hg h_b489_21 83).1, (ev_hg h_b489_21 83).2.set 37 (13, 10, 2147485249)))),
  (74, e2_cutL al_b489_22 2 (E_b489_22.take 2) (ev_hs h_b489_22 83 ((ev_hg h_b489_22 83).1, (ev_hg h_b489_22 83).2.set 37 (13, 10, 2147485249)))),
  (74, e2_cutS cn_b489_30),
  (74, e2_cutS cn_b489_31),
  (74, e2_cutL al_b489_39 2 (E_b489_39.take 2) (ev_hs h_b489_39 83 ((ev_hg h_b489_39 83).1, (ev_hg h_b489_39 83).2.set 37 (13, 10, 2147485249)))),
  (74, e2_cutL al_b489_40 2 (E_b489_40.take 2) (ev_hs h_b489_40 83 ((ev_hg h_b489_40 83).1, (ev_hg h_b489_40 83).2.set 37 (13, 10, 2147485249)))),
  (74, e2_cutS cn_b489_48),
  (74, e2_cutS cn_b489_49),
  (74, e2_cutL al_b489_57 2 (E_b489_57.take 2) (ev_hs h_b489_57 83 ((ev_hg h_b489_57 83).1, (ev_hg h_b489_57 83).2.set 37 (13, 10, 2147485249)))),
  (74, e2_cutL al_b489_58 2 (E_b489_58.take 2) (ev_hs h_b489_58 83 ((ev_hg h_b489_58 83).1, (ev_hg h_b489_58 83).2.set 37 (13, 10, 2147485249)))),
  (74, e2_cutS cn_b489_66),
  (74, e2_cutS cn_b489_67),
  (74, e2_cutL al_b489_75 2 (E_b489_75.take 2) (ev_hs h_b489_75 83 ((ev_hg h_b489_75 83).1, (ev_hg h_b489_75 83).2.set 37 (13, 10, 2147485249)))),
  (74, e2_cutL al_b489_76 2 (E_b489_76.take 2) (ev_hs h_b489_76 83 ((ev_hg h_b489_76 83).1, (ev_hg h_b489_76 83).2.set 37 (13, 10, 2147485249)))),
  (74, e2_cutS cn_b489_84),
  (74, e2_cutS cn_b489_85),
  (74, e2_cutS cn_b489_93),
  (74, e2_cutS cn_b489_94)]
set_option maxRecDepth 1000000 in
theorem ck_b489_75 : e2_runM (e2_cal S_b489 I_b489 4000 1) (e2_fin rs_b489) e2x_185 (e2_bpL cl_b489_75) (e2_cutA cl_b489_75) 4000 (e2_seek e2x_185 74) al_b489_75 [] E_b489_75 h_b489_75 = true := by decide +kernel
set_option maxRecDepth 1000000 in
theorem ci_b489_75 : e2_idl 2 al_b489_75 = true := by decide +kernel
set_option maxRecDepth 1000000 in
theorem cj_b489_75 : e2_idh 2 8 (ev_hs h_b489_75 83 ((ev_hg h_b489_75 83).1, (ev_hg h_b489_75 83).2.set 37 (7, 0, 0))) = true := by decide +kernel
set_option maxRecDepth 1000000 in
theorem cg_b489_75 : (ev_hg h_b489_75 83).1 < 50 ∧ (ev_hg h_b489_75 83).2[37]? = some (1, 2, 4294967296) := by decide +kernel
noncomputable def cl_b489_76 : List (Nat × e2_S) := [(74, e2_cutS cn_b489_4),
  (74, e2_cutS cn_b489_5),
  (74, e2_cutS cn_b489_13),
  (74, e2_cutS cn_b489_14),
  (74, e2_cutL al_b489_22 2 (E_b489_22.take 2) (ev_hs h_b489_22 83 ((ev_hg h_b489_22 83).1, (ev_hg h_b489_22 83).2.set 37 (13, 10, 2147485249)))),
  (74, e2_cutL al_b489_23 2 (E_b489_23.take 2) (ev_hs h_b489_23 83 ((ev_hg h_b489_23 83).1, (ev_hg h_b489_23 83).2.set 37 (13, 10, 2147485249)))),
  (74, e2_cutS cn_b489_31),
  (74, e2_cutS cn_b489_32),
  (74, e2_cutL al_b489_40 2 (E_b489_40.take 2) (ev_hs h_b489_40 83 ((ev_hg h_b489_40 83).1, (ev_hg h_b489_40 83).2.set 37 (13, 10, 2147485249)))),
  (74, e2_cutL al_b489_41 2 (E_b489_41.take 2) (ev_hs h_b489_41 83 ((ev_hg h_b489_41 83).1, (ev_hg h_b489_41 83).2.set 37 (13, 10, 2147485249)))),
  (74, e2_cutS cn_b489_49),
  (74, e2_cutS cn_b489_50),
  (74, e2_cutL al_b489_58 2 (E_b489_58.take 2) (ev_hs h_b489_58 83 ((ev_hg h_b489_58 83).1, (ev_hg h_b489_58 83).2.set 37 (13, 10, 2147485249)))),
  (74, e2_cutL al_b489_59 2 (E_b489_59.take 2) (ev_hs h_b489_59 83 ((ev_hg h_b489_59 83).1, (ev_hg h_b489_59 83).2.set 37 (13, 10, 2147485249)))),
  (74, e2_cutS cn_b489_67),
  (74, e2_cutS cn_b489_68),
  (74, e2_cutL al_b489_76 2 (E_b489_76.take 2) (ev_hs h_b489_76 83 ((ev_hg h_b489_76 83).1, (ev_hg h_b489_76 83).2.set 37 (13, 10, 2147485249)))),
  (74, e2_cutL al_b489_77 2 (E_b489_77.take 2) (ev_hs h_b489_77 83 ((ev_hg h_b489_77 83).1, (ev_hg h_b489_77 83).2.set 37 (13, 10, 2147485249)))),
  (74, e2_cutS cn_b489_85),
  (74, e2_cutS cn_b489_86),
  (74, e2_cutS cn_b489_94),
  (74, e2_cutS cn_b489_95)]
set_option maxRecDepth 1000000 in
theorem ck_b489_76 : e2_runM (e2_cal S_b489 I_b489 4000 1) (e2_fin rs_b489) e2x_185 (e2_bpL cl_b489_76) (e2_cutA cl_b489_76) 4000 (e2_seek e2x_185 74) al_b489_76 [] E_b489_76 h_b489_76 = true := by decide +kernel
set_option maxRecDepth 1000000 in
theorem ci_b489_76 : e2_idl 2 al_b489_76 = true := by decide +kernel
set_option maxRecDepth 1000000 in
theorem cj_b489_76 : e2_idh 2 8 (ev_hs h_b489_76 83 ((ev_hg h_b489_76 83).1, (ev_hg h_b489_76 83).2.set 37 (7, 0, 0))) = true := by decide +kernel
set_option maxRecDepth 1000000 in
theorem cg_b489_76 : (ev_hg h_b489_76 83).1 < 50 ∧ (ev_hg h_b489_76 83).2[37]? = some (1, 2, 4294967296) := by decide +kernel
noncomputable def cl_b489_77 : List (Nat × e2_S) := [(74, e2_cutS cn_b489_5),
  (74, e2_cutS cn_b489_6),
  (74, e2_cutS cn_b489_14),
  (74, e2_cutS cn_b489_15),
  (74, e2_cutL al_b489_23 2 (E_b489_23.take 2) (ev_hs h_b489_23 83 ((ev_hg h_b489_23 83).1, (ev_hg h_b489_23 83).2.set 37 (13, 10, 2147485249)))),
  (74, e2_cutL al_b489_24 2 (E_b489_24.take 2) (ev_hs h_b489_24 83 ((ev_hg h_b489_24 83).1, (ev_hg h_b489_24 83).2.set 37 (13, 10, 2147485249)))),
  (74, e2_cutS cn_b489_32),
  (74, e2_cutS cn_b489_33),
  (74, e2_cutL al_b489_41 2 (E_b489_41.take 2) (ev_hs h_b489_41 83 ((ev_hg h_b489_41 83).1, (ev_hg h_b489_41 83).2.set 37 (13, 10, 2147485249)))),
  (74, e2_cutL al_b489_42 2 (E_b489_42.take 2) (ev_hs h_b489_42 83 ((ev_hg h_b489_42 83).1, (ev_hg h_b489_42 83).2.set 37 (13, 10, 2147485249)))),
  (74, e2_cutS cn_b489_50),
  (74, e2_cutS cn_b489_51),
  (74, e2_cutL al_b489_59 2 (E_b489_59.take 2) (ev_hs h_b489_59 83 ((ev_hg h_b489_59 83).1, (ev_hg h_b489_59 83).2.set 37 (13, 10, 2147485249)))),
  (74, e2_cutL al_b489_60 2 (E_b489_60.take 2) (ev_hs h_b489_60 83 ((ev_hg h_b489_60 83).1, (ev_hg h_b489_60 83).2.set 37 (13, 10, 2147485249)))),
  (74, e2_cutS cn_b489_68),
  (74, e2_cutS cn_b489_69),
  (74, e2_cutL al_b489_77 2 (E_b489_77.take 2) (ev_hs h_b489_77 83 ((ev_hg h_b489_77 83).1, (ev_hg h_b489_77 83).2.set 37 (13, 10, 2147485249)))),
  (74, e2_cutL al_b489_78 2 (E_b489_78.take 2) (ev_hs h_b489_78 83 ((ev_hg h_b489_78 83).1, (ev_hg h_b489_78 83).2.set 37 (13, 10, 2147485249)))),
  (74, e2_cutS cn_b489_86),
  (74, e2_cutS cn_b489_87),
  (74, e2_cutS cn_b489_95),
  (74, e2_cutS cn_b489_96)]
set_option maxRecDepth 1000000 in
theorem ck_b489_77 : e2_runM (e2_cal S_b489 I_b489 4000 1) (e2_fin rs_b489) e2x_185 (e2_bpL cl_b489_77) (e2_cutA cl_b489_77) 4000 (e2_seek e2x_185 74) al_b489_77 [] E_b489_77 h_b489_77 = true := by decide +kernel
set_option maxRecDepth 1000000 in
theorem ci_b489_77 : e2_idl 2 al_b489_77 = true := by decide +kernel
set_option maxRecDepth 1000000 in
theorem cj_b489_77 : e2_idh 2 8 (ev_hs h_b489_77 83 ((ev_hg h_b489_77 83).1, (ev_hg h_b489_77 83).2.set 37 (7, 0, 0))) = true := by decide +kernel
set_option maxRecDepth 1000000 in
theorem cg_b489_77 : (ev_hg h_b489_77 83).1 < 50 ∧ (ev_hg h_b489_77 83).2[37]? = some (1, 2, 4294967296) := by decide +kernel
noncomputable def cl_b489_78 : List (Nat × e2_S) := [(74, e2_cutS cn_b489_6),
  (74, e2_cutS cn_b489_7),
  (74, e2_cutS cn_b489_15),
  (74, e2_cutS cn_b489_16),
  (74, e2_cutL al_b489_24 2 (E_b489_24.take 2) (ev_hs h_b489_24 83 ((ev_hg h_b489_24 83).1, (ev_hg h_b489_24 83).2.set 37 (13, 10, 2147485249)))),
  (74, e2_cutL al_b489_25 2 (E_b489_25.take 2) (ev_hs h_b489_25 83 ((ev_hg h_b489_25 83).1, (ev_hg h_b489_25 83).2.set 37 (13, 10, 2147485249)))),
  (74, e2_cutS cn_b489_33),
  (74, e2_cutS cn_b489_34),
  (74, e2_cutL al_b489_42 2 (E_b489_42.take 2) (ev_hs h_b489_42 83 ((ev_hg h_b489_42 83).1, (ev_hg h_b489_42 83).2.set 37 (13, 10, 2147485249)))),
  (74, e2_cutL al_b489_43 2 (E_b489_43.take 2) (ev_hs h_b489_43 83 ((ev_hg h_b489_43 83).1, (ev_hg h_b489_43 83).2.set 37 (13, 10, 2147485249)))),
  (74, e2_cutS cn_b489_51),
  (74, e2_cutS cn_b489_52),
  (74, e2_cutL al_b489_60 2 (E_b489_60.take 2) (ev_hs h_b489_60 83 ((ev_hg h_b489_60 83).1, (ev_hg h_b489_60 83).2.set 37 (13, 10, 2147485249)))),
  (74, e2_cutL al_b489_61 2 (E_b489_61.take 2) (ev_hs h_b489_61 83 ((ev_hg h_b489_61 83).1, (ev_hg h_b489_61 83).2.set 37 (13, 10, 2147485249)))),
  (74, e2_cutS cn_b489_69),
  (74, e2_cutS cn_b489_70),
  (74, e2_cutL al_b489_78 2 (E_b489_78.take 2) (ev_hs h_b489_78 83 ((ev_hg h_b489_78 83).1, (ev_hg h_b489_78 83).2.set 37 (13, 10, 2147485249)))),
  (74, e2_cutL al_b489_79 2 (E_b489_79.take 2) (ev_hs h_b489_79 83 ((ev_hg h_b489_79 83).1, (ev_hg h_b489_79 83).2.set 37 (13, 10, 2147485249)))),
  (74, e2_cutS cn_b489_87),
  (74, e2_cutS cn_b489_88),
  (74, e2_cutS cn_b489_96),
  (74, e2_cutS cn_b489_97)]
set_option maxRecDepth 1000000 in
theorem ck_b489_78 : e2_runM (e2_cal S_b489 I_b489 4000 1) (e2_fin rs_b489) e2x_185 (e2_bpL cl_b489_78) (e2_cutA cl_b489_78) 4000 (e2_seek e2x_185 74) al_b489_78 [] E_b489_78 h_b489_78 = true := by decide +kernel
set_option maxRecDepth 1000000 in
theorem ci_b489_78 : e2_idl 2 al_b489_78 = true := by decide +kernel
set_option maxRecDepth 1000000 in
theorem cj_b489_78 : e2_idh 2 8 (ev_hs h_b489_78 83 ((ev_hg h_b489_78 83).1, (ev_hg h_b489_78 83).2.set 37 (7, 0, 0))) = true := by decide +kernel
set_option maxRecDepth 1000000 in
theorem cg_b489_78 : (ev_hg h_b489_78 83).1 < 50 ∧ (ev_hg h_b489_78 83).2[37]? = some (1, 2, 4294967296) := by decide +kernel
noncomputable def cl_b489_79 : List (Nat × e2_S) := [(74, e2_cutS cn_b489_7),
  (74, e2_cutS cn_b489_8),
  (74, e2_cutS cn_b489_16),
  (74, e2_cutS cn_b489_17),
  (74, e2_cutL al_b489_25 2 (E_b489_25.take 2) (ev_hs h_b489_25 83 ((ev_hg h_b489_25 83).1, (ev_hg h_b489_25 83).2.set 37 (13, 10, 2147485249)))),
  (74, e2_cutL al_b489_26 2 (E_b489_26.take 2) (ev_hs h_b489_26 83 ((ev_hg h_b489_26 83).1, (ev_hg h_b489_26 83).2.set 37 (13, 10, 2147485249)))),
  (74, e2_cutS cn_b489_34),
  (74, e2_cutS cn_b489_35),
  (74, e2_cutL al_b489_43 2 (E_b489_43.take 2) (ev_hs h_b489_43 83 ((ev_hg h_b489_43 83).1, (ev_hg h_b489_43 83).2.set 37 (13, 10, 2147485249)))),
  (74, e2_cutL al_b489_44 2 (E_b489_44.take 2) (ev_hs h_b489_44 83 ((ev_hg h_b489_44 83).1, (ev_hg h_b489_44 83).2.set 37 (13, 10, 2147485249)))),
  (74, e2_cutS cn_b489_52),
  (74, e2_cutS cn_b489_53),
  (74, e2_cutL al_b489_61 2 (E_b489_61.take 2) (ev_hs h_b489_61 83 ((ev_hg h_b489_61 83).1, (ev_hg h_b489_61 83).2.set 37 (13, 10, 2147485249)))),
  (74, e2_cutL al_b489_62 2 (E_b489_62.take 2) (ev_hs h_b489_62 83 ((ev_hg h_b489_62 83).1, (ev_hg h_b489_62 83).2.set 37 (13, 10, 2147485249)))),
  (74, e2_cutS cn_b489_70),
  (74, e2_cutS cn_b489_71),
  (74, e2_cutL al_b489_79 2 (E_b489_79.take 2) (ev_hs h_b489_79 83 ((ev_hg h_b489_79 83).1, (ev_hg h_b489_79 83).2.set 37 (13, 10, 2147485249)))),
  (74, e2_cutL al_b489_80 2 (E_b489_80.take 2) (ev_hs h_b489_80 83 ((ev_hg h_b489_80 83).1, (ev_hg h_b489_80 83).2.set 37 (13, 10, 2147485249)))),
  (74, e2_cutS cn_b489_88),
  (74, e2_cutS cn_b489_89),
  (74, e2_cutS cn_b489_97),
  (74, e2_cutS cn_b489_98)]
set_option maxRecDepth 1000000 in
theorem ck_b489_79 : e2_runM (e2_cal S_b489 I_b489 4000 1) (e2_fin rs_b489) e2x_185 (e2_bpL cl_b489_79) (e2_cutA cl_b489_79) 4000 (e2_seek e2x_185 74) al_b489_79 [] E_b489_79 h_b489_79 = true := by decide +kernel
set_option maxRecDepth 1000000 in
theorem ci_b489_79 : e2_idl 2 al_b489_79 = true := by decide +kernel
set_option maxRecDepth 1000000 in
theorem cj_b489_79 : e2_idh 2 8 (ev_hs h_b489_79 83 ((ev_hg h_b489_79 83).1, (ev_hg h_b489_79 83).2.set 37 (7, 0, 0))) = true := by decide +kernel
set_option maxRecDepth 1000000 in
theorem cg_b489_79 : (ev_hg h_b489_79 83).1 < 50 ∧ (ev_hg h_b489_79 83).2[37]? = some (1, 2, 4294967296) := by decide +kernel
noncomputable def cl_b489_80 : List (Nat × e2_S) := [(74, e2_cutS cn_b489_8),
  (74, e2_cutS cn_b489_9),
  (74, e2_cutS cn_b489_17),
  (74, e2_cutS cn_b489_18),
  (74, e2_cutL al_b489_26 2 (E_b489_26.take 2) (ev_hs h_b489_26 83 ((ev_hg h_b489_26 83).1, (ev_hg h_b489_26 83).2.set 37 (13, 10, 2147485249)))),
  (74, e2_cutL al_b489_27 2 (E_b489_27.take 2) (ev_hs h_b489_27 83 ((ev_hg h_b489_27 83).1, (ev_hg h_b489_27 83).2.set 37 (13, 10, 2147485249)))),
  (74, e2_cutS cn_b489_35),
  (74, e2_cutS cn_b489_36),
  (74, e2_cutL al_b489_44 2 (E_b489_44.take 2) (ev_hs h_b489_44 83 ((ev_hg h_b489_44 83).1, (ev_hg h_b489_44 83).2.set 37 (13, 10, 2147485249)))),
  (74, e2_cutL al_b489_45 2 (E_b489_45.take 2) (ev_hs h_b489_45 83 ((ev_hg h_b489_45 83).1, (ev_hg h_b489_45 83).2.set 37 (13, 10, 2147485249)))),
  (74, e2_cutS cn_b489_53),
  (74, e2_cutS cn_b489_54),
  (74, e2_cutL al_b489_62 2 (E_b489_62.take 2) (ev_hs h_b489_62 83 ((ev_hg h_b489_62 83).1, (ev_hg h_b489_62 83).2.set 37 (13, 10, 2147485249)))),
  (74, e2_cutL al_b489_63 2 (E_b489_63.take 2) (ev_hs h_b489_63 83 ((ev_hg h_b489_63 83).1, (ev_hg h_b489_63 83).2.set 37 (13, 10, 2147485249)))),
  (74, e2_cutS cn_b489_71),
  (74, e2_cutS cn_b489_72),
  (74, e2_cutL al_b489_80 2 (E_b489_80.take 2) (ev_hs h_b489_80 83 ((ev_hg h_b489_80 83).1, (ev_hg h_b489_80 83).2.set 37 (13, 10, 2147485249)))),
  (74, e2_cutL al_b489_81 2 (E_b489_81.take 2) (ev_hs h_b489_81 83 ((ev_hg h_b489_81 83).1, (ev_hg h_b489_81 83).2.set 37 (13, 10, 2147485249)))),
  (74, e2_cutS cn_b489_89),
  (74, e2_cutS cn_b489_90),
  (74, e2_cutS cn_b489_98),
  (74, e2_cutS cn_b489_99)]
set_option maxRecDepth 1000000 in
theorem ck_b489_80 : e2_runM (e2_cal S_b489 I_b489 4000 1) (e2_fin rs_b489) e2x_185 (e2_bpL cl_b489_80) (e2_cutA cl_b489_80) 4000 (e2_seek e2x_185 74) al_b489_80 [] E_b489_80 h_b489_80 = true := by decide +kernel
set_option maxRecDepth 1000000 in
theorem ci_b489_80 : e2_idl 2 al_b489_80 = true := by decide +kernel
set_option maxRecDepth 1000000 in
theorem cj_b489_80 : e2_idh 2 8 (ev_hs h_b489_80 83 ((ev_hg h_b489_80 83).1, (ev_hg h_b489_80 83).2.set 37 (7, 0, 0))) = true := by decide +kernel
set_option maxRecDepth 1000000 in
theorem cg_b489_80 : (ev_hg h_b489_80 83).1 < 50 ∧ (ev_hg h_b489_80 83).2[37]? = some (1, 2, 4294967296) := by decide +kernel
noncomputable def cl_b489_81 : List (Nat × e2_S) := [(74, e2_cutS cn_b489_9),
  (74, e2_cutS cn_b489_18),
  (74, e2_cutL al_b489_27 2 (E_b489_27.take 2) (ev_hs h_b489_27 83 ((ev_hg h_b489_27 83).1, (ev_hg h_b489_27 83).2.set 37 (13, 10, 2147485249)))),
  (74, e2_cutS cn_b489_36),
  (74, e2_cutL al_b489_45 2 (E_b489_45.take 2) (ev_hs h_b489_45 83 ((ev_hg h_b489_45 83).1, (ev_hg h_b489_45 83).2.set 37 (13, 10, 2147485249)))),
  (74, e2_cutS cn_b489_54),
  (74, e2_cutL al_b489_63 2 (E_b489_63.take 2) (ev_hs h_b489_63 83 ((ev_hg h_b489_63 83).1, (ev_hg h_b489_63 83).2.set 37 (13, 10, 2147485249)))),
  (74, e2_cutS cn_b489_72),
  (74, e2_cutL al_b489_81 2 (E_b489_81.take 2) (ev_hs h_b489_81 83 ((ev_hg h_b489_81 83).1, (ev_hg h_b489_81 83).2.set 37 (13, 10, 2147485249)))),
  (74, e2_cutS cn_b489_90),
  (74, e2_cutS cn_b489_99)]
set_option maxRecDepth 1000000 in
theorem ck_b489_81 : e2_runM (e2_cal S_b489 I_b489 4000 1) (e2_fin rs_b489) e2x_185 (e2_bpL cl_b489_81) (e2_cutA cl_b489_81) 4000 (e2_seek e2x_185 74) al_b489_81 [] E_b489_81 h_b489_81 = true := by decide +kernel
set_option maxRecDepth 1000000 in
theorem ci_b489_81 : e2_idl 2 al_b489_81 = true := by decide +kernel
set_option maxRecDepth 1000000 in
theorem cj_b489_81 : e2_idh 2 8 (ev_hs h_b489_81 83 ((ev_hg h_b489_81 83).1, (ev_hg h_b489_81 83).2.set 37 (7, 0, 0))) = true := by decide +kernel
set_option maxRecDepth 1000000 in
theorem cg_b489_81 : (ev_hg h_b489_81 83).1 < 50 ∧ (ev_hg h_b489_81 83).2[37]? = some (1, 2, 4294967296) := by decide +kernel
theorem cs_b489 (hen : en_ok) (l : Launch) (hh : e2_hand_b l) : e2_smOk l 67 s_b489 := by
  refine e2_conG (H := 65) (n := 1) (C := evd_185) (S := S_b489) (I := I_b489) (fuel := 4000) hen ei_185 (e2_fa ((cs_b168 hen l).mono (by decide)) (e2_fa ((cs_b170 hen l).mono (by decide)) (e2_fa ((cs_b172 hen l).mono (by decide)) (e2_fa ((cs_b246 hen l).mono (by decide)) (e2_fa ((cs_b247 hen l).mono (by decide)) (e2_fa ((cs_b248 hen l).mono (by decide)) (e2_fa (cs_b349 hen l hh) (e2_fa (cs_b367 hen l hh) (e2_fa (cs_b385 hen l hh) (e2_fa (cs_b403 hen l hh) (e2_fa (cs_b421 hen l hh) (e2_fa (cs_b439 hen l hh) (e2_fa (cs_b457 hen l hh) (e2_fa (cs_b475 hen l hh) (e2_fa ((cs_b488 hen l hh).mono (by decide)) e2_fz))))))))))))))) (e2_fa ein_174 e2_fz) (by decide) co_b489 fun M d _ hC hcall p e R s m args below meth c Q D cA A ads r0 ha hl0 => ?_
  have EN_1 := e2_cutS_ok (bp := 74) (cuts := cn_b489_1) (e2_cuts_len hl0 (by decide +kernel)) (e2_cuts_ok hen ha hcall (hC []) (X := e2x_185) ex2_185 (e2_cuts_len hl0 (by decide +kernel)) ck_b489_m1)
  have EN_2 := e2_cutS_ok (bp := 74) (cuts := cn_b489_2) (e2_cuts_len hl0 (by decide +kernel)) (e2_cuts_ok hen ha hcall (hC []) (X := e2x_185) ex2_185 (e2_cuts_len hl0 (by decide +kernel)) ck_b489_m2)
  have EN_3 := e2_cutS_ok (bp := 74) (cuts := cn_b489_3) (e2_cuts_len hl0 (by decide +kernel)) (e2_cuts_ok hen ha hcall (hC []) (X := e2x_185) ex2_185 (e2_cuts_len hl0 (by decide +kernel)) ck_b489_m3)
  have EN_4 := e2_cutS_ok (bp := 74) (cuts := cn_b489_4) (e2_cuts_len hl0 (by decide +kernel)) (e2_cuts_ok hen ha hcall (hC []) (X := e2x_185) ex2_185 (e2_cuts_len hl0 (by decide +kernel)) ck_b489_m4)
  have EN_5 := e2_cutS_ok (bp := 74) (cuts := cn_b489_5) (e2_cuts_len hl0 (by decide +kernel)) (e2_cuts_ok hen ha hcall (hC []) (X := e2x_185) ex2_185 (e2_cuts_len hl0 (by decide +kernel)) ck_b489_m5)
  have EN_6 := e2_cutS_ok (bp := 74) (cuts := cn_b489_6) (e2_cuts_len hl0 (by decide +kernel)) (e2_cuts_ok hen ha hcall (hC []) (X := e2x_185) ex2_185 (e2_cuts_len hl0 (by decide +kernel)) ck_b489_m6)
  have EN_7 := e2_cutS_ok (bp := 74) (cuts := cn_b489_7) (e2_cuts_len hl0 (by decide +kernel)) (e2_cuts_ok hen ha hcall (hC []) (X := e2x_185) ex2_185 (e2_cuts_len hl0 (by decide +kernel)) ck_b489_m7)
  have EN_8 := e2_cutS_ok (bp := 74) (cuts := cn_b489_8) (e2_cuts_len hl0 (by decide +kernel)) (e2_cuts_ok hen ha hcall (hC []) (X := e2x_185) ex2_185 (e2_cuts_len hl0 (by decide +kernel)) ck_b489_m8)
  have EN_9 := e2_cutS_ok (bp := 74) (cuts := cn_b489_9) (e2_cuts_len hl0 (by decide +kernel)) (e2_cuts_ok hen ha hcall (hC []) (X := e2x_185) ex2_185 (e2_cuts_len hl0 (by decide +kernel)) ck_b489_m9)
  have EN_10 := e2_cutS_ok (bp := 74) (cuts := cn_b489_10) (e2_cuts_len hl0 (by decide +kernel)) (e2_cuts_ok hen ha hcall (hC []) (X := e2x_185) ex2_185 (e2_cuts_len hl0 (by decide +kernel)) ck_b489_m10)
  have EN_11 := e2_cutS_ok (bp := 74) (cuts := cn_b489_11) (e2_cuts_len hl0 (by decide +kernel)) (e2_cuts_ok hen ha hcall (hC []) (X := e2x_185) ex2_185 (e2_cuts_len hl0 (by decide +kernel)) ck_b489_m11)
  have EN_12 := e2_cutS_ok (bp := 74) (cuts := cn_b489_12) (e2_cuts_len hl0 (by decide +kernel)) (e2_cuts_ok hen ha hcall (hC []) (X := e2x_185) ex2_185 (e2_cuts_len hl0 (by decide +kernel)) ck_b489_m12)
  have EN_13 := e2_cutS_ok (bp := 74) (cuts := cn_b489_13) (e2_cuts_len hl0 (by decide +kernel)) (e2_cuts_ok hen ha hcall (hC []) (X := e2x_185) ex2_185 (e2_cuts_len hl0 (by decide +kernel)) ck_b489_m13)
  have EN_14 := e2_cutS_ok (bp := 74) (cuts := cn_b489_14) (e2_cuts_len hl0 (by decide +kernel)) (e2_cuts_ok hen ha hcall (hC []) (X := e2x_185) ex2_185 (e2_cuts_len hl0 (by decide +kernel)) ck_b489_m14)
  have EN_15 := e2_cutS_ok (bp := 74) (cuts := cn_b489_15) (e2_cuts_len hl0 (by decide +kernel)) (e2_cuts_ok hen ha hcall (hC []) (X := e2x_185) ex2_185 (e2_cuts_len hl0 (by decide +kernel)) ck_b489_m15)
  have EN_16 := e2_cutS_ok (bp := 74) (cuts := cn_b489_16) (e2_cuts_len hl0 (by decide +kernel)) (e2_cuts_ok hen ha hcall (hC []) (X := e2x_185) ex2_185 (e2_cuts_len hl0 (by decide +kernel)) ck_b489_m16)
  have EN_17 := e2_cutS_ok (bp := 74) (cuts := cn_b489_17) (e2_cuts_len hl0 (by decide +kernel)) (e2_cuts_ok hen ha hcall (hC []) (X := e2x_185) ex2_185 (e2_cuts_len hl0 (by decide +kernel)) ck_b489_m17)
  have EN_18 := e2_cutS_ok (bp := 74) (cuts := cn_b489_18) (e2_cuts_len hl0 (by decide +kernel)) (e2_cuts_ok hen ha hcall (hC []) (X := e2x_185) ex2_185 (e2_cuts_len hl0 (by decide +kernel)) ck_b489_m18)
  have EN_28 := e2_cutS_ok (bp := 74) (cuts := cn_b489_28) (e2_cuts_len hl0 (by decide +kernel)) (e2_cuts_ok hen ha hcall (hC []) (X := e2x_185) ex2_185 (e2_cuts_len hl0 (by decide +kernel)) ck_b489_m28)
  have EN_29 := e2_cutS_ok (bp := 74) (cuts := cn_b489_29) (e2_cuts_len hl0 (by decide +kernel)) (e2_cuts_ok hen ha hcall (hC []) (X := e2x_185) ex2_185 (e2_cuts_len hl0 (by decide +kernel)) ck_b489_m29)
  have EN_30 := e2_cutS_ok (bp := 74) (cuts := cn_b489_30) (e2_cuts_len hl0 (by decide +kernel)) (e2_cuts_ok hen ha hcall (hC []) (X := e2x_185) ex2_185 (e2_cuts_len hl0 (by decide +kernel)) ck_b489_m30)
  have EN_31 := e2_cutS_ok (bp := 74) (cuts := cn_b489_31) (e2_cuts_len hl0 (by decide +kernel)) (e2_cuts_ok hen ha hcall (hC []) (X := e2x_185) ex2_185 (e2_cuts_len hl0 (by decide +kernel)) ck_b489_m31)
  have EN_32 := e2_cutS_ok (bp := 74) (cuts := cn_b489_32) (e2_cuts_len hl0 (by decide +kernel)) (e2_cuts_ok hen ha hcall (hC []) (X := e2x_185) ex2_185 (e2_cuts_len hl0 (by decide +kernel)) ck_b489_m32)
  have EN_33 := e2_cutS_ok (bp := 74) (cuts := cn_b489_33) (e2_cuts_len hl0 (by decide +kernel)) (e2_cuts_ok hen ha hcall (hC []) (X := e2x_185) ex2_185 (e2_cuts_len hl0 (by decide +kernel)) ck_b489_m33)
  have EN_34 := e2_cutS_ok (bp := 74) (cuts := cn_b489_34) (e2_cuts_len hl0 (by decide +kernel)) (e2_cuts_ok hen ha hcall (hC []) (X := e2x_185) ex2_185 (e2_cuts_len hl0 (by decide +kernel)) ck_b489_m34)
  have EN_35 := e2_cutS_ok (bp := 74) (cuts := cn_b489_35) (e2_cuts_len hl0 (by decide +kernel)) (e2_cuts_ok hen ha hcall (hC []) (X := e2x_185) ex2_185 (e2_cuts_len hl0 (by decide +kernel)) ck_b489_m35)
  have EN_36 := e2_cutS_ok (bp := 74) (cuts := cn_b489_36) (e2_cuts_len hl0 (by decide +kernel)) (e2_cuts_ok hen ha hcall (hC []) (X := e2x_185) ex2_185 (e2_cuts_len hl0 (by decide +kernel)) ck_b489_m36)
  have EN_46 := e2_cutS_ok (bp := 74) (cuts := cn_b489_46) (e2_cuts_len hl0 (by decide +kernel)) (e2_cuts_ok hen ha hcall (hC []) (X := e2x_185) ex2_185 (e2_cuts_len hl0 (by decide +kernel)) ck_b489_m46)
  have EN_47 := e2_cutS_ok (bp := 74) (cuts := cn_b489_47) (e2_cuts_len hl0 (by decide +kernel)) (e2_cuts_ok hen ha hcall (hC []) (X := e2x_185) ex2_185 (e2_cuts_len hl0 (by decide +kernel)) ck_b489_m47)
  have EN_48 := e2_cutS_ok (bp := 74) (cuts := cn_b489_48) (e2_cuts_len hl0 (by decide +kernel)) (e2_cuts_ok hen ha hcall (hC []) (X := e2x_185) ex2_185 (e2_cuts_len hl0 (by decide +kernel)) ck_b489_m48)
  have EN_49 := e2_cutS_ok (bp := 74) (cuts := cn_b489_49) (e2_cuts_len hl0 (by decide +kernel)) (e2_cuts_ok hen ha hcall (hC []) (X := e2x_185) ex2_185 (e2_cuts_len hl0 (by decide +kernel)) ck_b489_m49)
  have EN_50 := e2_cutS_ok (bp := 74) (cuts := cn_b489_50) (e2_cuts_len hl0 (by decide +kernel)) (e2_cuts_ok hen ha hcall (hC []) (X := e2x_185) ex2_185 (e2_cuts_len hl0 (by decide +kernel)) ck_b489_m50)
  have EN_51 := e2_cutS_ok (bp := 74) (cuts := cn_b489_51) (e2_cuts_len hl0 (by decide +kernel)) (e2_cuts_ok hen ha hcall (hC []) (X := e2x_185) ex2_185 (e2_cuts_len hl0 (by decide +kernel)) ck_b489_m51)
  have EN_52 := e2_cutS_ok (bp := 74) (cuts := cn_b489_52) (e2_cuts_len hl0 (by decide +kernel)) (e2_cuts_ok hen ha hcall (hC []) (X := e2x_185) ex2_185 (e2_cuts_len hl0 (by decide +kernel)) ck_b489_m52)
  have EN_53 := e2_cutS_ok (bp := 74) (cuts := cn_b489_53) (e2_cuts_len hl0 (by decide +kernel)) (e2_cuts_ok hen ha hcall (hC []) (X := e2x_185) ex2_185 (e2_cuts_len hl0 (by decide +kernel)) ck_b489_m53)
  have EN_54 := e2_cutS_ok (bp := 74) (cuts := cn_b489_54) (e2_cuts_len hl0 (by decide +kernel)) (e2_cuts_ok hen ha hcall (hC []) (X := e2x_185) ex2_185 (e2_cuts_len hl0 (by decide +kernel)) ck_b489_m54)
  have EN_64 := e2_cutS_ok (bp := 74) (cuts := cn_b489_64) (e2_cuts_len hl0 (by decide +kernel)) (e2_cuts_ok hen ha hcall (hC []) (X := e2x_185) ex2_185 (e2_cuts_len hl0 (by decide +kernel)) ck_b489_m64)
  have EN_65 := e2_cutS_ok (bp := 74) (cuts := cn_b489_65) (e2_cuts_len hl0 (by decide +kernel)) (e2_cuts_ok hen ha hcall (hC []) (X := e2x_185) ex2_185 (e2_cuts_len hl0 (by decide +kernel)) ck_b489_m65)
  have EN_66 := e2_cutS_ok (bp := 74) (cuts := cn_b489_66) (e2_cuts_len hl0 (by decide +kernel)) (e2_cuts_ok hen ha hcall (hC []) (X := e2x_185) ex2_185 (e2_cuts_len hl0 (by decide +kernel)) ck_b489_m66)
  have EN_67 := e2_cutS_ok (bp := 74) (cuts := cn_b489_67) (e2_cuts_len hl0 (by decide +kernel)) (e2_cuts_ok hen ha hcall (hC []) (X := e2x_185) ex2_185 (e2_cuts_len hl0 (by decide +kernel)) ck_b489_m67)
  have EN_68 := e2_cutS_ok (bp := 74) (cuts := cn_b489_68) (e2_cuts_len hl0 (by decide +kernel)) (e2_cuts_ok hen ha hcall (hC []) (X := e2x_185) ex2_185 (e2_cuts_len hl0 (by decide +kernel)) ck_b489_m68)
  have EN_69 := e2_cutS_ok (bp := 74) (cuts := cn_b489_69) (e2_cuts_len hl0 (by decide +kernel)) (e2_cuts_ok hen ha hcall (hC []) (X := e2x_185) ex2_185 (e2_cuts_len hl0 (by decide +kernel)) ck_b489_m69)
  have EN_70 := e2_cutS_ok (bp := 74) (cuts := cn_b489_70) (e2_cuts_len hl0 (by decide +kernel)) (e2_cuts_ok hen ha hcall (hC []) (X := e2x_185) ex2_185 (e2_cuts_len hl0 (by decide +kernel)) ck_b489_m70)
  have EN_71 := e2_cutS_ok (bp := 74) (cuts := cn_b489_71) (e2_cuts_len hl0 (by decide +kernel)) (e2_cuts_ok hen ha hcall (hC []) (X := e2x_185) ex2_185 (e2_cuts_len hl0 (by decide +kernel)) ck_b489_m71)
  have EN_72 := e2_cutS_ok (bp := 74) (cuts := cn_b489_72) (e2_cuts_len hl0 (by decide +kernel)) (e2_cuts_ok hen ha hcall (hC []) (X := e2x_185) ex2_185 (e2_cuts_len hl0 (by decide +kernel)) ck_b489_m72)
  have EN_82 := e2_cutS_ok (bp := 74) (cuts := cn_b489_82) (e2_cuts_len hl0 (by decide +kernel)) (e2_cuts_ok hen ha hcall (hC []) (X := e2x_185) ex2_185 (e2_cuts_len hl0 (by decide +kernel)) ck_b489_m82)
  have EN_83 := e2_cutS_ok (bp := 74) (cuts := cn_b489_83) (e2_cuts_len hl0 (by decide +kernel)) (e2_cuts_ok hen ha hcall (hC []) (X := e2x_185) ex2_185 (e2_cuts_len hl0 (by decide +kernel)) ck_b489_m83)
  have EN_84 := e2_cutS_ok (bp := 74) (cuts := cn_b489_84) (e2_cuts_len hl0 (by decide +kernel)) (e2_cuts_ok hen ha hcall (hC []) (X := e2x_185) ex2_185 (e2_cuts_len hl0 (by decide +kernel)) ck_b489_m84)
  have EN_85 := e2_cutS_ok (bp := 74) (cuts := cn_b489_85) (e2_cuts_len hl0 (by decide +kernel)) (e2_cuts_ok hen ha hcall (hC []) (X := e2x_185) ex2_185 (e2_cuts_len hl0 (by decide +kernel)) ck_b489_m85)
  have EN_86 := e2_cutS_ok (bp := 74) (cuts := cn_b489_86) (e2_cuts_len hl0 (by decide +kernel)) (e2_cuts_ok hen ha hcall (hC []) (X := e2x_185) ex2_185 (e2_cuts_len hl0 (by decide +kernel)) ck_b489_m86)
  have EN_87 := e2_cutS_ok (bp := 74) (cuts := cn_b489_87) (e2_cuts_len hl0 (by decide +kernel)) (e2_cuts_ok hen ha hcall (hC []) (X := e2x_185) ex2_185 (e2_cuts_len hl0 (by decide +kernel)) ck_b489_m87)
  have EN_88 := e2_cutS_ok (bp := 74) (cuts := cn_b489_88) (e2_cuts_len hl0 (by decide +kernel)) (e2_cuts_ok hen ha hcall (hC []) (X := e2x_185) ex2_185 (e2_cuts_len hl0 (by decide +kernel)) ck_b489_m88)
  have EN_89 := e2_cutS_ok (bp := 74) (cuts := cn_b489_89) (e2_cuts_len hl0 (by decide +kernel)) (e2_cuts_ok hen ha hcall (hC []) (X := e2x_185) ex2_185 (e2_cuts_len hl0 (by decide +kernel)) ck_b489_m89)
  have EN_90 := e2_cutS_ok (bp := 74) (cuts := cn_b489_90) (e2_cuts_len hl0 (by decide +kernel)) (e2_cuts_ok hen ha hcall (hC []) (X := e2x_185) ex2_185 (e2_cuts_len hl0 (by decide +kernel)) ck_b489_m90)
  have EN_91 := e2_cutS_ok (bp := 74) (cuts := cn_b489_91) (e2_cuts_len hl0 (by decide +kernel)) (e2_cuts_ok hen ha hcall (hC []) (X := e2x_185) ex2_185 (e2_cuts_len hl0 (by decide +kernel)) ck_b489_m91)
  have EN_92 := e2_cutS_ok (bp := 74) (cuts := cn_b489_92) (e2_cuts_len hl0 (by decide +kernel)) (e2_cuts_ok hen ha hcall (hC []) (X := e2x_185) ex2_185 (e2_cuts_len hl0 (by decide +kernel)) ck_b489_m92)
  have EN_93 := e2_cutS_ok (bp := 74) (cuts := cn_b489_93) (e2_cuts_len hl0 (by decide +kernel)) (e2_cuts_ok hen ha hcall (hC []) (X := e2x_185) ex2_185 (e2_cuts_len hl0 (by decide +kernel)) ck_b489_m93)
  have EN_94 := e2_cutS_ok (bp := 74) (cuts := cn_b489_94) (e2_cuts_len hl0 (by decide +kernel)) (e2_cuts_ok hen ha hcall (hC []) (X := e2x_185) ex2_185 (e2_cuts_len hl0 (by decide +kernel)) ck_b489_m94)
  have EN_95 := e2_cutS_ok (bp := 74) (cuts := cn_b489_95) (e2_cuts_len hl0 (by decide +kernel)) (e2_cuts_ok hen ha hcall (hC []) (X := e2x_185) ex2_185 (e2_cuts_len hl0 (by decide +kernel)) ck_b489_m95)
  have EN_96 := e2_cutS_ok (bp := 74) (cuts := cn_b489_96) (e2_cuts_len hl0 (by decide +kernel)) (e2_cuts_ok hen ha hcall (hC []) (X := e2x_185) ex2_185 (e2_cuts_len hl0 (by decide +kernel)) ck_b489_m96)
  have EN_97 := e2_cutS_ok (bp := 74) (cuts := cn_b489_97) (e2_cuts_len hl0 (by decide +kernel)) (e2_cuts_ok hen ha hcall (hC []) (X := e2x_185) ex2_185 (e2_cuts_len hl0 (by decide +kernel)) ck_b489_m97)
  have EN_98 := e2_cutS_ok (bp := 74) (cuts := cn_b489_98) (e2_cuts_len hl0 (by decide +kernel)) (e2_cuts_ok hen ha hcall (hC []) (X := e2x_185) ex2_185 (e2_cuts_len hl0 (by decide +kernel)) ck_b489_m98)
  have EN_99 := e2_cutS_ok (bp := 74) (cuts := cn_b489_99) (e2_cuts_len hl0 (by decide +kernel)) (e2_cuts_ok hen ha hcall (hC []) (X := e2x_185) ex2_185 (e2_cuts_len hl0 (by decide +kernel)) ck_b489_m99)
  have LG_74 : ∀ x ∈ ([(al_b489_19, h_b489_19), (al_b489_20, h_b489_20), (al_b489_21, h_b489_21), (al_b489_22, h_b489_22), (al_b489_23, h_b489_23), (al_b489_24, h_b489_24), (al_b489_25, h_b489_25), (al_b489_26, h_b489_26), (al_b489_27, h_b489_27), (al_b489_37, h_b489_37), (al_b489_38, h_b489_38), (al_b489_39, h_b489_39), (al_b489_40, h_b489_40), (al_b489_41, h_b489_41), (al_b489_42, h_b489_42), (al_b489_43, h_b489_43), (al_b489_44, h_b489_44), (al_b489_45, h_b489_45), (al_b489_55, h_b489_55), (al_b489_56, h_b489_56), (al_b489_57, h_b489_57), (al_b489_58, h_b489_58), (al_b489_59, h_b489_59), (al_b489_60, h_b489_60), (al_b489_61, h_b489_61), (al_b489_62, h_b489_62), (al_b489_63, h_b489_63), (al_b489_73, h_b489_73), (al_b489_74, h_b489_74), (al_b489_75, h_b489_75), (al_b489_76, h_b489_76), (al_b489_77, h_b489_77), (al_b489_78, h_b489_78), (al_b489_79, h_b489_79), (al_b489_80, h_b489_80), (al_b489_81, h_b489_81)] : List (List ev_V × ev_H)), e2_gdM M p l e R s m args below meth c Q D cA A ads r0 74 x.1 [] E_b489_19 x.2 := by
    refine e2_indHL (u := 2) (a := 83) (j := 37) (lo := 2147483648) (hi := 2147485249) (b := 2) (dd := 0) hl0 (by decide) rfl rfl (Or.inr ⟨rfl, rfl⟩) (by decide) (e2_fa ⟨cg_b489_19.1, cg_b489_19.2, ci_b489_19, cj_b489_19⟩ (e2_fa ⟨cg_b489_20.1, cg_b489_20.2, ci_b489_20, cj_b489_20⟩ (e2_fa ⟨cg_b489_21.1, cg_b489_21.2, ci_b489_21, cj_b489_21⟩ (e2_fa ⟨cg_b489_22.1, cg_b489_22.2, ci_b489_22, cj_b489_22⟩ (e2_fa ⟨cg_b489_23.1, cg_b489_23.2, ci_b489_23, cj_b489_23⟩ (e2_fa ⟨cg_b489_24.1, cg_b489_24.2, ci_b489_24, cj_b489_24⟩ (e2_fa ⟨cg_b489_25.1, cg_b489_25.2, ci_b489_25, cj_b489_25⟩ (e2_fa ⟨cg_b489_26.1, cg_b489_26.2, ci_b489_26, cj_b489_26⟩ (e2_fa ⟨cg_b489_27.1, cg_b489_27.2, ci_b489_27, cj_b489_27⟩ (e2_fa ⟨cg_b489_37.1, cg_b489_37.2, ci_b489_37, cj_b489_37⟩ (e2_fa ⟨cg_b489_38.1, cg_b489_38.2, ci_b489_38, cj_b489_38⟩ (e2_fa ⟨cg_b489_39.1, cg_b489_39.2, ci_b489_39, cj_b489_39⟩ (e2_fa ⟨cg_b489_40.1, cg_b489_40.2, ci_b489_40, cj_b489_40⟩ (e2_fa ⟨cg_b489_41.1, cg_b489_41.2, ci_b489_41, cj_b489_41⟩ (e2_fa ⟨cg_b489_42.1, cg_b489_42.2, ci_b489_42, cj_b489_42⟩ (e2_fa ⟨cg_b489_43.1, cg_b489_43.2, ci_b489_43, cj_b489_43⟩ (e2_fa ⟨cg_b489_44.1, cg_b489_44.2, ci_b489_44, cj_b489_44⟩ (e2_fa ⟨cg_b489_45.1, cg_b489_45.2, ci_b489_45, cj_b489_45⟩ (e2_fa ⟨cg_b489_55.1, cg_b489_55.2, ci_b489_55, cj_b489_55⟩ (e2_fa ⟨cg_b489_56.1, cg_b489_56.2, ci_b489_56, cj_b489_56⟩ (e2_fa ⟨cg_b489_57.1, cg_b489_57.2, ci_b489_57, cj_b489_57⟩ (e2_fa ⟨cg_b489_58.1, cg_b489_58.2, ci_b489_58, cj_b489_58⟩ (e2_fa ⟨cg_b489_59.1, cg_b489_59.2, ci_b489_59, cj_b489_59⟩ (e2_fa ⟨cg_b489_60.1, cg_b489_60.2, ci_b489_60, cj_b489_60⟩ (e2_fa ⟨cg_b489_61.1, cg_b489_61.2, ci_b489_61, cj_b489_61⟩ (e2_fa ⟨cg_b489_62.1, cg_b489_62.2, ci_b489_62, cj_b489_62⟩ (e2_fa ⟨cg_b489_63.1, cg_b489_63.2, ci_b489_63, cj_b489_63⟩ (e2_fa ⟨cg_b489_73.1, cg_b489_73.2, ci_b489_73, cj_b489_73⟩ (e2_fa ⟨cg_b489_74.1, cg_b489_74.2, ci_b489_74, cj_b489_74⟩ (e2_fa ⟨cg_b489_75.1, cg_b489_75.2, ci_b489_75, cj_b489_75⟩ (e2_fa ⟨cg_b489_76.1, cg_b489_76.2, ci_b489_76, cj_b489_76⟩ (e2_fa ⟨cg_b489_77.1, cg_b489_77.2, ci_b489_77, cj_b489_77⟩ (e2_fa ⟨cg_b489_78.1, cg_b489_78.2, ci_b489_78, cj_b489_78⟩ (e2_fa ⟨cg_b489_79.1, cg_b489_79.2, ci_b489_79, cj_b489_79⟩ (e2_fa ⟨cg_b489_80.1, cg_b489_80.2, ci_b489_80, cj_b489_80⟩ (e2_fa ⟨cg_b489_81.1, cg_b489_81.2, ci_b489_81, cj_b489_81⟩ e2_fz)))))))))))))))))))))))))))))))))))) ?_
    exact (e2_fa (fun r_g74 k_g hk_g hp_g74 hs_g hn_g74 => e2_fromM hen (ha.ext hp_g74) hcall (e2_cutA_ok (e2_fa (fun al st E h hc => (EN_28 al st E h hc).ext hp_g74) e2_fz)) (hC []) (X := e2x_185) ex2_185 74 ck_b489_19)
      (e2_fa (fun r_g74 k_g hk_g hp_g74 hs_g hn_g74 => e2_fromM hen (ha.ext hp_g74) hcall (e2_cutA_ok (e2_fa (fun al st E h hc => (EN_29 al st E h hc).ext hp_g74) e2_fz)) (hC []) (X := e2x_185) ex2_185 74 ck_b489_20)
      (e2_fa (fun r_g74 k_g hk_g hp_g74 hs_g hn_g74 => e2_fromM hen (ha.ext hp_g74) hcall (e2_cutA_ok (e2_fa (fun al st E h hc => (EN_30 al st E h hc).ext hp_g74) e2_fz)) (hC []) (X := e2x_185) ex2_185 74 ck_b489_21)
      (e2_fa (fun r_g74 k_g hk_g hp_g74 hs_g hn_g74 => e2_fromM hen (ha.ext hp_g74) hcall (e2_cutA_ok (e2_fa (fun al st E h hc => (EN_31 al st E h hc).ext hp_g74) e2_fz)) (hC []) (X := e2x_185) ex2_185 74 ck_b489_22)
      (e2_fa (fun r_g74 k_g hk_g hp_g74 hs_g hn_g74 => e2_fromM hen (ha.ext hp_g74) hcall (e2_cutA_ok (e2_fa (fun al st E h hc => (EN_32 al st E h hc).ext hp_g74) e2_fz)) (hC []) (X := e2x_185) ex2_185 74 ck_b489_23)
      (e2_fa (fun r_g74 k_g hk_g hp_g74 hs_g hn_g74 => e2_fromM hen (ha.ext hp_g74) hcall (e2_cutA_ok (e2_fa (fun al st E h hc => (EN_33 al st E h hc).ext hp_g74) e2_fz)) (hC []) (X := e2x_185) ex2_185 74 ck_b489_24)
      (e2_fa (fun r_g74 k_g hk_g hp_g74 hs_g hn_g74 => e2_fromM hen (ha.ext hp_g74) hcall (e2_cutA_ok (e2_fa (fun al st E h hc => (EN_34 al st E h hc).ext hp_g74) e2_fz)) (hC []) (X := e2x_185) ex2_185 74 ck_b489_25)
      (e2_fa (fun r_g74 k_g hk_g hp_g74 hs_g hn_g74 => e2_fromM hen (ha.ext hp_g74) hcall (e2_cutA_ok (e2_fa (fun al st E h hc => (EN_35 al st E h hc).ext hp_g74) e2_fz)) (hC []) (X := e2x_185) ex2_185 74 ck_b489_26)
      (e2_fa (fun r_g74 k_g hk_g hp_g74 hs_g hn_g74 => e2_fromM hen (ha.ext hp_g74) hcall (e2_cutA_ok (e2_fa (fun al st E h hc => (EN_36 al st E h hc).ext hp_g74) e2_fz)) (hC []) (X := e2x_185) ex2_185 74 ck_b489_27)
      (e2_fa (fun r_g74 k_g hk_g hp_g74 hs_g hn_g74 => e2_fromM hen (ha.ext hp_g74) hcall (e2_cutA_ok (e2_fa (fun al st E h hc => (EN_46 al st E h hc).ext hp_g74) e2_fz)) (hC []) (X := e2x_185) ex2_185 74 ck_b489_37)
      (e2_fa (fun r_g74 k_g hk_g hp_g74 hs_g hn_g74 => e2_fromM hen (ha.ext hp_g74) hcall (e2_cutA_ok (e2_fa (fun al st E h hc => (EN_47 al st E h hc).ext hp_g74) e2_fz)) (hC []) (X := e2x_185) ex2_185 74 ck_b489_38)
      (e2_fa (fun r_g74 k_g hk_g hp_g74 hs_g hn_g74 => e2_fromM hen (ha.ext hp_g74) hcall (e2_cutA_ok (e2_fa (fun al st E h hc => (EN_48 al st E h hc).ext hp_g74) e2_fz)) (hC []) (X := e2x_185) ex2_185 74 ck_b489_39)
      (e2_fa (fun r_g74 k_g hk_g hp_g74 hs_g hn_g74 => e2_fromM hen (ha.ext hp_g74) hcall (e2_cutA_ok (e2_fa (fun al st E h hc => (EN_49 al st E h hc).ext hp_g74) e2_fz)) (hC []) (X := e2x_185) ex2_185 74 ck_b489_40)
      (e2_fa (fun r_g74 k_g hk_g hp_g74 hs_g hn_g74 => e2_fromM hen (ha.ext hp_g74) hcall (e2_cutA_ok (e2_fa (fun al st E h hc => (EN_50 al st E h hc).ext hp_g74) e2_fz)) (hC []) (X := e2x_185) ex2_185 74 ck_b489_41)
      (e2_fa (fun r_g74 k_g hk_g hp_g74 hs_g hn_g74 => e2_fromM hen (ha.ext hp_g74) hcall (e2_cutA_ok (e2_fa (fun al st E h hc => (EN_51 al st E h hc).ext hp_g74) e2_fz)) (hC []) (X := e2x_185) ex2_185 74 ck_b489_42)
      (e2_fa (fun r_g74 k_g hk_g hp_g74 hs_g hn_g74 => e2_fromM hen (ha.ext hp_g74) hcall (e2_cutA_ok (e2_fa (fun al st E h hc => (EN_52 al st E h hc).ext hp_g74) e2_fz)) (hC []) (X := e2x_185) ex2_185 74 ck_b489_43)
      (e2_fa (fun r_g74 k_g hk_g hp_g74 hs_g hn_g74 => e2_fromM hen (ha.ext hp_g74) hcall (e2_cutA_ok (e2_fa (fun al st E h hc => (EN_53 al st E h hc).ext hp_g74) e2_fz)) (hC []) (X := e2x_185) ex2_185 74 ck_b489_44)
      (e2_fa (fun r_g74 k_g hk_g hp_g74 hs_g hn_g74 => e2_fromM hen (ha.ext hp_g74) hcall (e2_cutA_ok (e2_fa (fun al st E h hc => (EN_54 al st E h hc).ext hp_g74) e2_fz)) (hC []) (X := e2x_185) ex2_185 74 ck_b489_45)
      (e2_fa (fun r_g74 k_g hk_g hp_g74 hs_g hn_g74 => e2_fromM hen (ha.ext hp_g74) hcall (e2_cutA_ok (e2_fa (fun al st E h hc => (EN_64 al st E h hc).ext hp_g74) e2_fz)) (hC []) (X := e2x_185) ex2_185 74 ck_b489_55)
      (e2_fa (fun r_g74 k_g hk_g hp_g74 hs_g hn_g74 => e2_fromM hen (ha.ext hp_g74) hcall (e2_cutA_ok (e2_fa (fun al st E h hc => (EN_65 al st E h hc).ext hp_g74) e2_fz)) (hC []) (X := e2x_185) ex2_185 74 ck_b489_56)
      (e2_fa (fun r_g74 k_g hk_g hp_g74 hs_g hn_g74 => e2_fromM hen (ha.ext hp_g74) hcall (e2_cutA_ok (e2_fa (fun al st E h hc => (EN_66 al st E h hc).ext hp_g74) e2_fz)) (hC []) (X := e2x_185) ex2_185 74 ck_b489_57)
      (e2_fa (fun r_g74 k_g hk_g hp_g74 hs_g hn_g74 => e2_fromM hen (ha.ext hp_g74) hcall (e2_cutA_ok (e2_fa (fun al st E h hc => (EN_67 al st E h hc).ext hp_g74) e2_fz)) (hC []) (X := e2x_185) ex2_185 74 ck_b489_58)
      (e2_fa (fun r_g74 k_g hk_g hp_g74 hs_g hn_g74 => e2_fromM hen (ha.ext hp_g74) hcall (e2_cutA_ok (e2_fa (fun al st E h hc => (EN_68 al st E h hc).ext hp_g74) e2_fz)) (hC []) (X := e2x_185) ex2_185 74 ck_b489_59)
      (e2_fa (fun r_g74 k_g hk_g hp_g74 hs_g hn_g74 => e2_fromM hen (ha.ext hp_g74) hcall (e2_cutA_ok (e2_fa (fun al st E h hc => (EN_69 al st E h hc).ext hp_g74) e2_fz)) (hC []) (X := e2x_185) ex2_185 74 ck_b489_60)
      (e2_fa (fun r_g74 k_g hk_g hp_g74 hs_g hn_g74 => e2_fromM hen (ha.ext hp_g74) hcall (e2_cutA_ok (e2_fa (fun al st E h hc => (EN_70 al st E h hc).ext hp_g74) e2_fz)) (hC []) (X := e2x_185) ex2_185 74 ck_b489_61)
      (e2_fa (fun r_g74 k_g hk_g hp_g74 hs_g hn_g74 => e2_fromM hen (ha.ext hp_g74) hcall (e2_cutA_ok (e2_fa (fun al st E h hc => (EN_71 al st E h hc).ext hp_g74) e2_fz)) (hC []) (X := e2x_185) ex2_185 74 ck_b489_62)
      (e2_fa (fun r_g74 k_g hk_g hp_g74 hs_g hn_g74 => e2_fromM hen (ha.ext hp_g74) hcall (e2_cutA_ok (e2_fa (fun al st E h hc => (EN_72 al st E h hc).ext hp_g74) e2_fz)) (hC []) (X := e2x_185) ex2_185 74 ck_b489_63)
      (e2_fa (fun r_g74 k_g hk_g hp_g74 hs_g hn_g74 => e2_fromM hen (ha.ext hp_g74) hcall (e2_cutA_ok (e2_fa (fun al st E h hc => (EN_1 al st E h hc).ext hp_g74) (e2_fa (fun al st E h hc => (EN_2 al st E h hc).ext hp_g74) (e2_fa (fun al st E h hc => (EN_10 al st E h hc).ext hp_g74) (e2_fa (fun al st E h hc => (EN_11 al st E h hc).ext hp_g74) (e2_fa (fun al st E h hc => hn_g74 _ (List.mem_cons_self) al st E h hc) (e2_fa (fun al st E h hc => hn_g74 _ (List.mem_cons_of_mem _ (List.mem_cons_self)) al st E h hc) (e2_fa (fun al st E h hc => (EN_28 al st E h hc).ext hp_g74) (e2_fa (fun al st E h hc => (EN_29 al st E h hc).ext hp_g74) (e2_fa (fun al st E h hc => hn_g74 _ (List.mem_cons_of_mem _ (List.mem_cons_of_mem _ (List.mem_cons_of_mem _ (List.mem_cons_of_mem _ (List.mem_cons_of_mem _ (List.mem_cons_of_mem _ (List.mem_cons_of_mem _ (List.mem_cons_of_mem _ (List.mem_cons_of_mem _ (List.mem_cons_self)))))))))) al st E h hc) (e2_fa (fun al st E h hc => hn_g74 _ (List.mem_cons_of_mem _ (List.mem_cons_of_mem _ (List.mem_cons_of_mem _ (List.mem_cons_of_mem _ (List.mem_cons_of_mem _ (List.mem_cons_of_mem _ (List.mem_cons_of_mem _ (List.mem_cons_of_mem _ (List.mem_cons_of_mem _ (List.mem_cons_of_mem _ (List.mem_cons_self))))))))))) al st E h hc) (e2_fa (fun al st E h hc => (EN_46 al st E h hc).ext hp_g74) (e2_fa (fun al st E h hc => (EN_47 al st E h hc).ext hp_g74) (e2_fa (fun al st E h hc => hn_g74 _ (List.mem_cons_of_mem _ (List.mem_cons_of_mem _ (List.mem_cons_of_mem _ (List.mem_cons_of_mem _ (List.mem_cons_of_mem _ (List.mem_cons_of_mem _ (List.mem_cons_of_mem _ (List.mem_cons_of_mem _ (List.mem_cons_of_mem _ (List.mem_cons_of_mem _ (List.mem_cons_of_mem _ (List.mem_cons_of_mem _ (List.mem_cons_of_mem _ (List.mem_cons_of_mem _ (List.mem_cons_of_mem _ (List.mem_cons_of_mem _ (List.mem_cons_of_mem _ (List.mem_cons_of_mem _ (List.mem_cons_self))))))))))))))))))) al st E h hc) (e2_fa (fun al st E h hc => hn_g74 _ (List.mem_cons_of_mem _ (List.mem_cons_of_mem _ (List.mem_cons_of_mem _ (List.mem_cons_of_mem _ (List.mem_cons_of_mem _ (List.mem_cons_of_mem _ (List.mem_cons_of_mem _ (List.mem_cons_of_mem _ (List.mem_cons_of_mem _ (List.mem_cons_of_mem _ (List.mem_cons_of_mem _ (List.mem_cons_of_mem _ (List.mem_cons_of_mem _ (List.mem_cons_of_mem _ (List.mem_cons_of_mem _ (List.mem_cons_of_mem _ (List.mem_cons_of_mem _ (List.mem_cons_of_mem _ (List.mem_cons_of_mem _ (List.mem_cons_self)))))))))))))))))))) al st E h hc) (e2_fa (fun al st E h hc => (EN_64 al st E h hc).ext hp_g74) (e2_fa (fun al st E h hc => (EN_65 al st E h hc).ext hp_g74) (e2_fa (fun al st E h hc => hn_g74 _ (List.mem_cons_of_mem _ (List.mem_cons_of_mem _ (List.mem_cons_of_mem _ (List.mem_cons_of_mem _ (List.mem_cons_of_mem _ (List.mem_cons_of_mem _ (List.mem_cons_of_mem _ (List.mem_cons_of_mem _ (List.mem_cons_of_mem _ (List.mem_cons_of_mem _ (List.mem_cons_of_mem _ (List.mem_cons_of_mem _ (List.mem_cons_of_mem _ (List.mem_cons_of_mem _ (List.mem_cons_of_mem _ (List.mem_cons_of_mem _ (List.mem_cons_of_mem _ (List.mem_cons_of_mem _ (List.mem_cons_of_mem _ (List.mem_cons_of_mem _ (List.mem_cons_of_mem _ (List.mem_cons_of_mem _ (List.mem_cons_of_mem _ (List.mem_cons_of_mem _ (List.mem_cons_of_mem _ (List.mem_cons_of_mem _ (List.mem_cons_of_mem _ (List.mem_cons_self)))))))))))))))))))))))))))) al st E h hc) (e2_fa (fun al st E h hc => hn_g74 _ (List.mem_cons_of_mem _ (List.mem_cons_of_mem _ (List.mem_cons_of_mem _ (List.mem_cons_of_mem _ (List.mem_cons_of_mem _ (List.mem_cons_of_mem _ (List.mem_cons_of_mem _ (List.mem_cons_of_mem _ (List.mem_cons_of_mem _ (List.mem_cons_of_mem _ (List.mem_cons_of_mem _ (List.mem_cons_of_mem _ (List.mem_cons_of_mem _ (List.mem_cons_of_mem _ (List.mem_cons_of_mem _ (List.mem_cons_of_mem _ (List.mem_cons_of_mem _ (List.mem_cons_of_mem _ (List.mem_cons_of_mem _ (List.mem_cons_of_mem _ (List.mem_cons_of_mem _ (List.mem_cons_of_mem _ (List.mem_cons_of_mem _ (List.mem_cons_of_mem _ (List.mem_cons_of_mem _ (List.mem_cons_of_mem _ (List.mem_cons_of_mem _ (List.mem_cons_of_mem _ (List.mem_cons_self))))))))))))))))))))))))))))) al st E h hc) (e2_fa (fun al st E h hc => (EN_82 al st E h hc).ext hp_g74) (e2_fa (fun al st E h hc => (EN_83 al st E h hc).ext hp_g74) (e2_fa (fun al st E h hc => (EN_91 al st E h hc).ext hp_g74) (e2_fa (fun al st E h hc => (EN_92 al st E h hc).ext hp_g74) e2_fz))))))))))))))))))))))) (hC []) (X := e2x_185) ex2_185 74 ck_b489_73)
      (e2_fa (fun r_g74 k_g hk_g hp_g74 hs_g hn_g74 => e2_fromM hen (ha.ext hp_g74) hcall (e2_cutA_ok (e2_fa (fun al st E h hc => (EN_2 al st E h hc).ext hp_g74) (e2_fa (fun al st E h hc => (EN_3 al st E h hc).ext hp_g74) (e2_fa (fun al st E h hc => (EN_11 al st E h hc).ext hp_g74) (e2_fa (fun al st E h hc => (EN_12 al st E h hc).ext hp_g74) (e2_fa (fun al st E h hc => hn_g74 _ (List.mem_cons_of_mem _ (List.mem_cons_self)) al st E h hc) (e2_fa (fun al st E h hc => hn_g74 _ (List.mem_cons_of_mem _ (List.mem_cons_of_mem _ (List.mem_cons_self))) al st E h hc) (e2_fa (fun al st E h hc => (EN_29 al st E h hc).ext hp_g74) (e2_fa (fun al st E h hc => (EN_30 al st E h hc).ext hp_g74) (e2_fa (fun al st E h hc => hn_g74 _ (List.mem_cons_of_mem _ (List.mem_cons_of_mem _ (List.mem_cons_of_mem _ (List.mem_cons_of_mem _ (List.mem_cons_of_mem _ (List.mem_cons_of_mem _ (List.mem_cons_of_mem _ (List.mem_cons_of_mem _ (List.mem_cons_of_mem _ (List.mem_cons_of_mem _ (List.mem_cons_self))))))))))) al st E h hc) (e2_fa (fun al st E h hc => hn_g74 _ (List.mem_cons_of_mem _ (List.mem_cons_of_mem _ (List.mem_cons_of_mem _ (List.mem_cons_of_mem _ (List.mem_cons_of_mem _ (List.mem_cons_of_mem _ (List.mem_cons_of_mem _ (List.mem_cons_of_mem _ (List.mem_cons_of_mem _ (List.mem_cons_of_mem _ (List.mem_cons_of_mem _ (List.mem_cons_self)))))))))))) al st E h hc) (e2_fa (fun al st E h hc => (EN_47 al st E h hc).ext hp_g74) (e2_fa (fun al st E h hc => (EN_48 al st E h hc).ext hp_g74) (e2_fa (fun al st E h hc => hn_g74 _ (List.mem_cons_of_mem _ (List.mem_cons_of_mem _ (List.mem_cons_of_mem _ (List.mem_cons_of_mem _ (List.mem_cons_of_mem _ (List.mem_cons_of_mem _ (List.mem_cons_of_mem _ (List.mem_cons_of_mem _ (List.mem_cons_of_mem _ (List.mem_cons_of_mem _ (List.mem_cons_of_mem _ (List.mem_cons_of_mem _ (List.mem_cons_of_mem _ (List.mem_cons_of_mem _ (List.mem_cons_of_mem _ (List.mem_cons_of_mem _ (List.mem_cons_of_mem _ (List.mem_cons_of_mem _ (List.mem_cons_of_mem _ (List.mem_cons_self)))))))))))))))))))) al st E h hc) (e2_fa (fun al st E h hc => hn_g74 _ (List.mem_cons_of_mem _ (List.mem_cons_of_mem _ (List.mem_cons_of_mem _ (List.mem_cons_of_mem _ (List.mem_cons_of_mem _ (List.mem_cons_of_mem _ (List.mem_cons_of_mem _ (List.mem_cons_of_mem _ (List.mem_cons_of_mem _ (List.mem_cons_of_mem _ (List.mem_cons_of_mem _ (List.mem_cons_of_mem _ (List.mem_cons_of_mem _ (List.mem_cons_of_mem _ (List.mem_cons_of_mem _ (List.mem_cons_of_mem _ (List.mem_cons_of_mem _ (List.mem_cons_of_mem _ (List.mem_cons_of_mem _ (List.mem_cons_of_mem _ (List.mem_cons_self))))))))))))))))))))) al st E h hc) (e2_fa (fun al st E h hc => (EN_65 al st E h hc).ext hp_g74) (e2_fa (fun al st E h hc => (EN_66 al st E h hc).ext hp_g74) (e2_fa (fun al st E h hc => hn_g74 _ (List.mem_cons_of_mem _ (List.mem_cons_of_mem _ (List.mem_cons_of_mem _ (List.mem_cons_of_mem _ (List.mem_cons_of_mem _ (List.mem_cons_of_mem _ (List.mem_cons_of_mem _ (List.mem_cons_of_mem _ (List.mem_cons_of_mem _ (List.mem_cons_of_mem _ (List.mem_cons_of_mem _ (List.mem_cons_of_mem _ (List.mem_cons_of_mem _ (List.mem_cons_of_mem _ (List.mem_cons_of_mem _ (List.mem_cons_of_mem _ (List.mem_cons_of_mem _ (List.mem_cons_of_mem _ (List.mem_cons_of_mem _ (List.mem_cons_of_mem _ (List.mem_cons_of_mem _ (List.mem_cons_of_mem _ (List.mem_cons_of_mem _ (List.mem_cons_of_mem _ (List.mem_cons_of_mem _ (List.mem_cons_of_mem _ (List.mem_cons_of_mem _ (List.mem_cons_of_mem _ (List.mem_cons_self))))))))))))))))))))))))))))) al st E h hc) (e2_fa (fun al st E h hc => hn_g74 _ (List.mem_cons_of_mem _ (List.mem_cons_of_mem _ (List.mem_cons_of_mem _ (List.mem_cons_of_mem _ (List.mem_cons_of_mem _ (List.mem_cons_of_mem _ (List.mem_cons_of_mem _ (List.mem_cons_of_mem _ (List.mem_cons_of_mem _ (List.mem_cons_of_mem _ (List.mem_cons_of_mem _ (List.mem_cons_of_mem _ (List.mem_cons_of_mem _ (List.mem_cons_of_mem _ (List.mem_cons_of_mem _ (List.mem_cons_of_mem _ (List.mem_cons_of_mem _ (List.mem_cons_of_mem _ (List.mem_cons_of_mem _ (List.mem_cons_of_mem _ (List.mem_cons_of_mem _ (List.mem_cons_of_mem _ (List.mem_cons_of_mem _ (List.mem_cons_of_mem _ (List.mem_cons_of_mem _ (List.mem_cons_of_mem _ (List.mem_cons_of_mem _ (List.mem_cons_of_mem _ (List.mem_cons_of_mem _ (List.mem_cons_self)))))))))))))))))))))))))))))) al st E h hc) (e2_fa (fun al st E h hc => (EN_83 al st E h hc).ext hp_g74) (e2_fa (fun al st E h hc => (EN_84 al st E h hc).ext hp_g74) (e2_fa (fun al st E h hc => (EN_92 al st E h hc).ext hp_g74) (e2_fa (fun al st E h hc => (EN_93 al st E h hc).ext hp_g74) e2_fz))))))))))))))))))))))) (hC []) (X := e2x_185) ex2_185 74 ck_b489_74)
      (e2_fa (fun r_g74 k_g hk_g hp_g74 hs_g hn_g74 => e2_fromM hen (ha.ext hp_g74) hcall (e2_cutA_ok (e2_fa (fun al st E h hc => (EN_3 al st E h hc).ext hp_g74) (e2_fa (fun al st E h hc => (EN_4 al st E h hc).ext hp_g74) (e2_fa (fun al st E h hc => (EN_12 al st E h hc).ext hp_g74) (e2_fa (fun al st E h hc => (EN_13 al st E h hc).ext hp_g74) (e2_fa (fun al st E h hc => hn_g74 _ (List.mem_cons_of_mem _ (List.mem_cons_of_mem _ (List.mem_cons_self))) al st E h hc) (e2_fa (fun al st E h hc => hn_g74 _ (List.mem_cons_of_mem _ (List.mem_cons_of_mem _ (List.mem_cons_of_mem _ (List.mem_cons_self)))) al st E h hc) (e2_fa (fun al st E h hc => (EN_30 al st E h hc).ext hp_g74) (e2_fa (fun al st E h hc => (EN_31 al st E h hc).ext hp_g74) (e2_fa (fun al st E h hc => hn_g74 _ (List.mem_cons_of_mem _ (List.mem_cons_of_mem _ (List.mem_cons_of_mem _ (List.mem_cons_of_mem _ (List.mem_cons_of_mem _ (List.mem_cons_of_mem _ (List.mem_cons_of_mem _ (List.mem_cons_of_mem _ (List.mem_cons_of_mem _ (List.mem_cons_of_mem _ (List.mem_cons_of_mem _ (List.mem_cons_self)))))))))))) al st E h hc) (e2_fa (fun al st E h hc => hn_g74 _ (List.mem_cons_of_mem _ (List.mem_cons_of_mem _ (List.mem_cons_of_mem _ (List.mem_cons_of_mem _ (List.mem_cons_of_mem _ (List.mem_cons_of_mem _ (List.mem_cons_of_mem _ (List.mem_cons_of_mem _ (List.mem_cons_of_mem _ (List.mem_cons_of_mem _ (List.mem_cons_of_mem _ (List.mem_cons_of_mem _ (List.mem_cons_self))))))))))))) al st E h hc) (e2_fa (fun al st E h hc => (EN_48 al st E h hc).ext hp_g74) (e2_fa (fun al st E h hc => (EN_49 al st E h hc).ext hp_g74) (e2_fa (fun al st E h hc => hn_g74 _ (List.mem_cons_of_mem _ (List.mem_cons_of_mem _ (List.mem_cons_of_mem _ (List.mem_cons_of_mem _ (List.mem_cons_of_mem _ (List.mem_cons_of_mem _ (List.mem_cons_of_mem _ (List.mem_cons_of_mem _ (List.mem_cons_of_mem _ (List.mem_cons_of_mem _ (List.mem_cons_of_mem _ (List.mem_cons_of_mem _ (List.mem_cons_of_mem _ (List.mem_cons_of_mem _ (List.mem_cons_of_mem _ (List.mem_cons_of_mem _ (List.mem_cons_of_mem _ (List.mem_cons_of_mem _ (List.mem_cons_of_mem _ (List.mem_cons_of_mem _ (List.mem_cons_self))))))))))))))))))))) al st E h hc) (e2_fa (fun al st E h hc => hn_g74 _ (List.mem_cons_of_mem _ (List.mem_cons_of_mem _ (List.mem_cons_of_mem _ (List.mem_cons_of_mem _ (List.mem_cons_of_mem _ (List.mem_cons_of_mem _ (List.mem_cons_of_mem _ (List.mem_cons_of_mem _ (List.mem_cons_of_mem _ (List.mem_cons_of_mem _ (List.mem_cons_of_mem _ (List.mem_cons_of_mem _ (List.mem_cons_of_mem _ (List.mem_cons_of_mem _ (List.mem_cons_of_mem _ (List.mem_cons_of_mem _ (List.mem_cons_of_mem _ (List.mem_cons_of_mem _ (List.mem_cons_of_mem _ (List.mem_cons_of_mem _ (List.mem_cons_of_mem _ (List.mem_cons_self)))))))))))))))))))))) al st E h hc) (e2_fa (fun al st E h hc => (EN_66 al st E h hc).ext hp_g74) (e2_fa (fun al st E h hc => (EN_67 al st E h hc).ext hp_g74) (e2_fa (fun al st E h hc => hn_g74 _ (List.mem_cons_of_mem _ (List.mem_cons_of_mem _ (List.mem_cons_of_mem _ (List.mem_cons_of_mem _ (List.mem_cons_of_mem _ (List.mem_cons_of_mem _ (List.mem_cons_of_mem _ (List.mem_cons_of_mem _ (List.mem_cons_of_mem _ (List.mem_cons_of_mem _ (List.mem_cons_of_mem _ (List.mem_cons_of_mem _ (List.mem_cons_of_mem _ (List.mem_cons_of_mem _ (List.mem_cons_of_mem _ (List.mem_cons_of_mem _ (List.mem_cons_of_mem _ (List.mem_cons_of_mem _ (List.mem_cons_of_mem _ (List.mem_cons_of_mem _ (List.mem_cons_of_mem _ (List.mem_cons_of_mem _ (List.mem_cons_of_mem _ (List.mem_cons_of_mem _ (List.mem_cons_of_mem _ (List.mem_cons_of_mem _ (List.mem_cons_of_mem _ (List.mem_cons_of_mem _ (List.mem_cons_of_mem _ (List.mem_cons_self)))))))))))))))))))))))))))))) al st E h hc) (e2_fa (fun al st E h hc => hn_g74 _ (List.mem_cons_of_mem _ (List.mem_cons_of_mem _ (List.mem_cons_of_mem _ (List.mem_cons_of_mem _ (List.mem_cons_of_mem _ (List.mem_cons_of_mem _ (List.mem_cons_of_mem _ (List.mem_cons_of_mem _ (List.mem_cons_of_mem _ (List.mem_cons_of_mem _ (List.mem_cons_of_mem _ (List.mem_cons_of_mem _ (List.mem_cons_of_mem _ (List.mem_cons_of_mem _ (List.mem_cons_of_mem _ (List.mem_cons_of_mem _ (List.mem_cons_of_mem _ (List.mem_cons_of_mem _ (List.mem_cons_of_mem _ (List.mem_cons_of_mem _ (List.mem_cons_of_mem _ (List.mem_cons_of_mem _ (List.mem_cons_of_mem _ (List.mem_cons_of_mem _ (List.mem_cons_of_mem _ (List.mem_cons_of_mem _ (List.mem_cons_of_mem _ (List.mem_cons_of_mem _ (List.mem_cons_of_mem _ (List.mem_cons_of_mem _ (List.mem_cons_self))))))))))))))))))))))))))))))) al st E h hc) (e2_fa (fun al st E h hc => (EN_84 al st E h hc).ext hp_g74) (e2_fa (fun al st E h hc => (EN_85 al st E h hc).ext hp_g74) (e2_fa (fun al st E h hc => (EN_93 al st E h hc).ext hp_g74) (e2_fa (fun al st E h hc => (EN_94 al st E h hc).ext hp_g74) e2_fz))))))))))))))))))))))) (hC []) (X := e2x_185) ex2_185 74 ck_b489_75)
      (e2_fa (fun r_g74 k_g hk_g hp_g74 hs_g hn_g74 => e2_fromM hen (ha.ext hp_g74) hcall (e2_cutA_ok (e2_fa (fun al st E h hc => (EN_4 al st E h hc).ext hp_g74) (e2_fa (fun al st E h hc => (EN_5 al st E h hc).ext hp_g74) (e2_fa (fun al st E h hc => (EN_13 al st E h hc).ext hp_g74) (e2_fa (fun al st E h hc => (EN_14 al st E h hc).ext hp_g74) (e2_fa (fun al st E h hc => hn_g74 _ (List.mem_cons_of_mem _ (List.mem_cons_of_mem _ (List.mem_cons_of_mem _ (List.mem_cons_self)))) al st E h hc) (e2_fa (fun al st E h hc => hn_g74 _ (List.mem_cons_of_mem _ (List.mem_cons_of_mem _ (List.mem_cons_of_mem _ (List.mem_cons_of_mem _ (List.mem_cons_self))))) al st E h hc) (e2_fa (fun al st E h hc => (EN_31 al st E h hc).ext hp_g74) (e2_fa (fun al st E h hc => (EN_32 al st E h hc).ext hp_g74) (e2_fa (fun al st E h hc => hn_g74 _ (List.mem_cons_of_mem _ (List.mem_cons_of_mem _ (List.mem_cons_of_mem _ (List.mem_cons_of_mem _ (List.mem_cons_of_mem _ (List.mem_cons_of_mem _ (List.mem_cons_of_mem _ (List.mem_cons_of_mem _ (List.mem_cons_of_mem _ (List.mem_cons_of_mem _ (List.mem_cons_of_mem _ (List.mem_cons_of_mem _ (List.mem_cons_self))))))))))))) al st E h hc) (e2_fa (fun al st E h hc => hn_g74 _ (List.mem_cons_of_mem _ (List.mem_cons_of_mem _ (List.mem_cons_of_mem _ (List.mem_cons_of_mem _ (List.mem_cons_of_mem _ (List.mem_cons_of_mem _ (List.mem_cons_of_mem _ (List.mem_cons_of_mem _ (List.mem_cons_of_mem _ (List.mem_cons_of_mem _ (List.mem_cons_of_mem _ (List.mem_cons_of_mem _ (List.mem_cons_of_mem _ (List.mem_cons_self)))))))))))))) al st E h hc) (e2_fa (fun al st E h hc => (EN_49 al st E h hc).ext hp_g74) (e2_fa (fun al st E h hc => (EN_50 al st E h hc).ext hp_g74) (e2_fa (fun al st E h hc => hn_g74 _ (List.mem_cons_of_mem _ (List.mem_cons_of_mem _ (List.mem_cons_of_mem _ (List.mem_cons_of_mem _ (List.mem_cons_of_mem _ (List.mem_cons_of_mem _ (List.mem_cons_of_mem _ (List.mem_cons_of_mem _ (List.mem_cons_of_mem _ (List.mem_cons_of_mem _ (List.mem_cons_of_mem _ (List.mem_cons_of_mem _ (List.mem_cons_of_mem _ (List.mem_cons_of_mem _ (List.mem_cons_of_mem _ (List.mem_cons_of_mem _ (List.mem_cons_of_mem _ (List.mem_cons_of_mem _ (List.mem_cons_of_mem _ (List.mem_cons_of_mem _ (List.mem_cons_of_mem _ (List.mem_cons_self)))))))))))))))))))))) al st E h hc) (e2_fa (fun al st E h hc => hn_g74 _ (List.mem_cons_of_mem _ (List.mem_cons_of_mem _ (List.mem_cons_of_mem _ (List.mem_cons_of_mem _ (List.mem_cons_of_mem _ (List.mem_cons_of_mem _ (List.mem_cons_of_mem _ (List.mem_cons_of_mem _ (List.mem_cons_of_mem _ (List.mem_cons_of_mem _ (List.mem_cons_of_mem _ (List.mem_cons_of_mem _ (List.mem_cons_of_mem _ (List.mem_cons_of_mem _ (List.mem_cons_of_mem _ (List.mem_cons_of_mem _ (List.mem_cons_of_mem _ (List.mem_cons_of_mem _ (List.mem_cons_of_mem _ (List.mem_cons_of_mem _ (List.mem_cons_of_mem _ (List.mem_cons_of_mem _ (List.mem_cons_self))))))))))))))))))))))) al st E h hc) (e2_fa (fun al st E h hc => (EN_67 al st E h hc).ext hp_g74) (e2_fa (fun al st E h hc => (EN_68 al st E h hc).ext hp_g74) (e2_fa (fun al st E h hc => hn_g74 _ (List.mem_cons_of_mem _ (List.mem_cons_of_mem _ (List.mem_cons_of_mem _ (List.mem_cons_of_mem _ (List.mem_cons_of_mem _ (List.mem_cons_of_mem _ (List.mem_cons_of_mem _ (List.mem_cons_of_mem _ (List.mem_cons_of_mem _ (List.mem_cons_of_mem _ (List.mem_cons_of_mem _ (List.mem_cons_of_mem _ (List.mem_cons_of_mem _ (List.mem_cons_of_mem _ (List.mem_cons_of_mem _ (List.mem_cons_of_mem _ (List.mem_cons_of_mem _ (List.mem_cons_of_mem _ (List.mem_cons_of_mem _ (List.mem_cons_of_mem _ (List.mem_cons_of_mem _ (List.mem_cons_of_mem _ (List.mem_cons_of_mem _ (List.mem_cons_of_mem _ (List.mem_cons_of_mem _ (List.mem_cons_of_mem _ (List.mem_cons_of_mem _ (List.mem_cons_of_mem _ (List.mem_cons_of_mem _ (List.mem_cons_of_mem _ (List.mem_cons_self))))))))))))))))))))))))))))))) al st E h hc) (e2_fa (fun al st E h hc => hn_g74 _ (List.mem_cons_of_mem _ (List.mem_cons_of_mem _ (List.mem_cons_of_mem _ (List.mem_cons_of_mem _ (List.mem_cons_of_mem _ (List.mem_cons_of_mem _ (List.mem_cons_of_mem _ (List.mem_cons_of_mem _ (List.mem_cons_of_mem _ (List.mem_cons_of_mem _ (List.mem_cons_of_mem _ (List.mem_cons_of_mem _ (List.mem_cons_of_mem _ (List.mem_cons_of_mem _ (List.mem_cons_of_mem _ (List.mem_cons_of_mem _ (List.mem_cons_of_mem _ (List.mem_cons_of_mem _ (List.mem_cons_of_mem _ (List.mem_cons_of_mem _ (List.mem_cons_of_mem _ (List.mem_cons_of_mem _ (List.mem_cons_of_mem _ (List.mem_cons_of_mem _ (List.mem_cons_of_mem _ (List.mem_cons_of_mem _ (List.mem_cons_of_mem _ (List.mem_cons_of_mem _ (List.mem_cons_of_mem _ (List.mem_cons_of_mem _ (List.mem_cons_of_mem _ (List.mem_cons_self)))))))))))))))))))))))))))))))) al st E h hc) (e2_fa (fun al st E h hc => (EN_85 al st E h hc).ext hp_g74) (e2_fa (fun al st E h hc => (EN_86 al st E h hc).ext hp_g74) (e2_fa (fun al st E h hc => (EN_94 al st E h hc).ext hp_g74) (e2_fa (fun al st E h hc => (EN_95 al st E h hc).ext hp_g74) e2_fz))))))))))))))))))))))) (hC []) (X := e2x_185) ex2_185 74 ck_b489_76)
      (e2_fa (fun r_g74 k_g hk_g hp_g74 hs_g hn_g74 => e2_fromM hen (ha.ext hp_g74) hcall (e2_cutA_ok (e2_fa (fun al st E h hc => (EN_5 al st E h hc).ext hp_g74) (e2_fa (fun al st E h hc => (EN_6 al st E h hc).ext hp_g74) (e2_fa (fun al st E h hc => (EN_14 al st E h hc).ext hp_g74) (e2_fa (fun al st E h hc => (EN_15 al st E h hc).ext hp_g74) (e2_fa (fun al st E h hc => hn_g74 _ (List.mem_cons_of_mem _ (List.mem_cons_of_mem _ (List.mem_cons_of_mem _ (List.mem_cons_of_mem _ (List.mem_cons_self))))) al st E h hc) (e2_fa (fun al st E h hc => hn_g74 _ (List.mem_cons_of_mem _ (List.mem_cons_of_mem _ (List.mem_cons_of_mem _ (List.mem_cons_of_mem _ (List.mem_cons_of_mem _ (List.mem_cons_self)))))) al st E h hc) (e2_fa (fun al st E h hc => (EN_32 al st E h hc).ext hp_g74) (e2_fa (fun al st E h hc => (EN_33 al st E h hc).ext hp_g74) (e2_fa (fun al st E h hc => hn_g74 _ (List.mem_cons_of_mem _ (List.mem_cons_of_mem _ (List.mem_cons_of_mem _ (List.mem_cons_of_mem _ (List.mem_cons_of_mem _ (List.mem_cons_of_mem _ (List.mem_cons_of_mem _ (List.mem_cons_of_mem _ (List.mem_cons_of_mem _ (List.mem_cons_of_mem _ (List.mem_cons_of_mem _ (List.mem_cons_of_mem _ (List.mem_cons_of_mem _ (List.mem_cons_self)))))))))))))) al st E h hc) (e2_fa (fun al st E h hc => hn_g74 _ (List.mem_cons_of_mem _ (List.mem_cons_of_mem _ (List.mem_cons_of_mem _ (List.mem_cons_of_mem _ (List.mem_cons_of_mem _ (List.mem_cons_of_mem _ (List.mem_cons_of_mem _ (List.mem_cons_of_mem _ (List.mem_cons_of_mem _ (List.mem_cons_of_mem _ (List.mem_cons_of_mem _ (List.mem_cons_of_mem _ (List.mem_cons_of_mem _ (List.mem_cons_of_mem _ (List.mem_cons_self))))))))))))))) al st E h hc) (e2_fa (fun al st E h hc => (EN_50 al st E h hc).ext hp_g74) (e2_fa (fun al st E h hc => (EN_51 al st E h hc).ext hp_g74) (e2_fa (fun al st E h hc => hn_g74 _ (List.mem_cons_of_mem _ (List.mem_cons_of_mem _ (List.mem_cons_of_mem _ (List.mem_cons_of_mem _ (List.mem_cons_of_mem _ (List.mem_cons_of_mem _ (List.mem_cons_of_mem _ (List.mem_cons_of_mem _ (List.mem_cons_of_mem _ (List.mem_cons_of_mem _ (List.mem_cons_of_mem _ (List.mem_cons_of_mem _ (List.mem_cons_of_mem _ (List.mem_cons_of_mem _ (List.mem_cons_of_mem _ (List.mem_cons_of_mem _ (List.mem_cons_of_mem _ (List.mem_cons_of_mem _ (List.mem_cons_of_mem _ (List.mem_cons_of_mem _ (List.mem_cons_of_mem _ (List.mem_cons_of_mem _ (List.mem_cons_self))))))))))))))))))))))) al st E h hc) (e2_fa (fun al st E h hc => hn_g74 _ (List.mem_cons_of_mem _ (List.mem_cons_of_mem _ (List.mem_cons_of_mem _ (List.mem_cons_of_mem _ (List.mem_cons_of_mem _ (List.mem_cons_of_mem _ (List.mem_cons_of_mem _ (List.mem_cons_of_mem _ (List.mem_cons_of_mem _ (List.mem_cons_of_mem _ (List.mem_cons_of_mem _ (List.mem_cons_of_mem _ (List.mem_cons_of_mem _ (List.mem_cons_of_mem _ (List.mem_cons_of_mem _ (List.mem_cons_of_mem _ (List.mem_cons_of_mem _ (List.mem_cons_of_mem _ (List.mem_cons_of_mem _ (List.mem_cons_of_mem _ (List.mem_cons_of_mem _ (List.mem_cons_of_mem _ (List.mem_cons_of_mem _ (List.mem_cons_self)))))))))))))))))))))))) al st E h hc) (e2_fa (fun al st E h hc => (EN_68 al st E h hc).ext hp_g74) (e2_fa (fun al st E h hc => (EN_69 al st E h hc).ext hp_g74) (e2_fa (fun al st E h hc => hn_g74 _ (List.mem_cons_of_mem _ (List.mem_cons_of_mem _ (List.mem_cons_of_mem _ (List.mem_cons_of_mem _ (List.mem_cons_of_mem _ (List.mem_cons_of_mem _ (List.mem_cons_of_mem _ (List.mem_cons_of_mem _ (List.mem_cons_of_mem _ (List.mem_cons_of_mem _ (List.mem_cons_of_mem _ (List.mem_cons_of_mem _ (List.mem_cons_of_mem _ (List.mem_cons_of_mem _ (List.mem_cons_of_mem _ (List.mem_cons_of_mem _ (List.mem_cons_of_mem _ (List.mem_cons_of_mem _ (List.mem_cons_of_mem _ (List.mem_cons_of_mem _ (List.mem_cons_of_mem _ (List.mem_cons_of_mem _ (List.mem_cons_of_mem _ (List.mem_cons_of_mem _ (List.mem_cons_of_mem _ (List.mem_cons_of_mem _ (List.mem_cons_of_mem _ (List.mem_cons_of_mem _ (List.mem_cons_of_mem _ (List.mem_cons_of_mem _ (List.mem_cons_of_mem _ (List.mem_cons_self)))))))))))))))))))))))))))))))) al st E h hc) (e2_fa (fun al st E h hc => hn_g74 _ (List.mem_cons_of_mem _ (List.mem_cons_of_mem _ (List.mem_cons_of_mem _ (List.mem_cons_of_mem _ (List.mem_cons_of_mem _ (List.mem_cons_of_mem _ (List.mem_cons_of_mem _ (List.mem_cons_of_mem _ (List.mem_cons_of_mem _ (List.mem_cons_of_mem _ (List.mem_cons_of_mem _ (List.mem_cons_of_mem _ (List.mem_cons_of_mem _ (List.mem_cons_of_mem _ (List.mem_cons_of_mem _ (List.mem_cons_of_mem _ (List.mem_cons_of_mem _ (List.mem_cons_of_mem _ (List.mem_cons_of_mem _ (List.mem_cons_of_mem _ (List.mem_cons_of_mem _ (List.mem_cons_of_mem _ (List.mem_cons_of_mem _ (List.mem_cons_of_mem _ (List.mem_cons_of_mem _ (List.mem_cons_of_mem _ (List.mem_cons_of_mem _ (List.mem_cons_of_mem _ (List.mem_cons_of_mem _ (List.mem_cons_of_mem _ (List.mem_cons_of_mem _ (List.mem_cons_of_mem _ (List.mem_cons_self))))))))))))))))))))))))))))))))) al st E h hc) (e2_fa (fun al st E h hc => (EN_86 al st E h hc).ext hp_g74) (e2_fa (fun al st E h hc => (EN_87 al st E h hc).ext hp_g74) (e2_fa (fun al st E h hc => (EN_95 al st E h hc).ext hp_g74) (e2_fa (fun al st E h hc => (EN_96 al st E h hc).ext hp_g74) e2_fz))))))))))))))))))))))) (hC []) (X := e2x_185) ex2_185 74 ck_b489_77)
      (e2_fa (fun r_g74 k_g hk_g hp_g74 hs_g hn_g74 => e2_fromM hen (ha.ext hp_g74) hcall (e2_cutA_ok (e2_fa (fun al st E h hc => (EN_6 al st E h hc).ext hp_g74) (e2_fa (fun al st E h hc => (EN_7 al st E h hc).ext hp_g74) (e2_fa (fun al st E h hc => (EN_15 al st E h hc).ext hp_g74) (e2_fa (fun al st E h hc => (EN_16 al st E h hc).ext hp_g74) (e2_fa (fun al st E h hc => hn_g74 _ (List.mem_cons_of_mem _ (List.mem_cons_of_mem _ (List.mem_cons_of_mem _ (List.mem_cons_of_mem _ (List.mem_cons_of_mem _ (List.mem_cons_self)))))) al st E h hc) (e2_fa (fun al st E h hc => hn_g74 _ (List.mem_cons_of_mem _ (List.mem_cons_of_mem _ (List.mem_cons_of_mem _ (List.mem_cons_of_mem _ (List.mem_cons_of_mem _ (List.mem_cons_of_mem _ (List.mem_cons_self))))))) al st E h hc) (e2_fa (fun al st E h hc => (EN_33 al st E h hc).ext hp_g74) (e2_fa (fun al st E h hc => (EN_34 al st E h hc).ext hp_g74) (e2_fa (fun al st E h hc => hn_g74 _ (List.mem_cons_of_mem _ (List.mem_cons_of_mem _ (List.mem_cons_of_mem _ (List.mem_cons_of_mem _ (List.mem_cons_of_mem _ (List.mem_cons_of_mem _ (List.mem_cons_of_mem _ (List.mem_cons_of_mem _ (List.mem_cons_of_mem _ (List.mem_cons_of_mem _ (List.mem_cons_of_mem _ (List.mem_cons_of_mem _ (List.mem_cons_of_mem _ (List.mem_cons_of_mem _ (List.mem_cons_self))))))))))))))) al st E h hc) (e2_fa (fun al st E h hc => hn_g74 _ (List.mem_cons_of_mem _ (List.mem_cons_of_mem _ (List.mem_cons_of_mem _ (List.mem_cons_of_mem _ (List.mem_cons_of_mem _ (List.mem_cons_of_mem _ (List.mem_cons_of_mem _ (List.mem_cons_of_mem _ (List.mem_cons_of_mem _ (List.mem_cons_of_mem _ (List.mem_cons_of_mem _ (List.mem_cons_of_mem _ (List.mem_cons_of_mem _ (List.mem_cons_of_mem _ (List.mem_cons_of_mem _ (List.mem_cons_self)))))))))))))))) al st E h hc) (e2_fa (fun al st E h hc => (EN_51 al st E h hc).ext hp_g74) (e2_fa (fun al st E h hc => (EN_52 al st E h hc).ext hp_g74) (e2_fa (fun al st E h hc => hn_g74 _ (List.mem_cons_of_mem _ (List.mem_cons_of_mem _ (List.mem_cons_of_mem _ (List.mem_cons_of_mem _ (List.mem_cons_of_mem _ (List.mem_cons_of_mem _ (List.mem_cons_of_mem _ (List.mem_cons_of_mem _ (List.mem_cons_of_mem _ (List.mem_cons_of_mem _ (List.mem_cons_of_mem _ (List.mem_cons_of_mem _ (List.mem_cons_of_mem _ (List.mem_cons_of_mem _ (List.mem_cons_of_mem _ (List.mem_cons_of_mem _ (List.mem_cons_of_mem _ (List.mem_cons_of_mem _ (List.mem_cons_of_mem _ (List.mem_cons_of_mem _ (List.mem_cons_of_mem _ (List.mem_cons_of_mem _ (List.mem_cons_of_mem _ (List.mem_cons_self)))))))))))))))))))))))) al st E h hc) (e2_fa (fun al st E h hc => hn_g74 _ (List.mem_cons_of_mem _ (List.mem_cons_of_mem _ (List.mem_cons_of_mem _ (List.mem_cons_of_mem _ (List.mem_cons_of_mem _ (List.mem_cons_of_mem _ (List.mem_cons_of_mem _ (List.mem_cons_of_mem _ (List.mem_cons_of_mem _ (List.mem_cons_of_mem _ (List.mem_cons_of_mem _ (List.mem_cons_of_mem _ (List.mem_cons_of_mem _ (List.mem_cons_of_mem _ (List.mem_cons_of_mem _ (List.mem_cons_of_mem _ (List.mem_cons_of_mem _ (List.mem_cons_of_mem _ (List.mem_cons_of_mem _ (List.mem_cons_of_mem _ (List.mem_cons_of_mem _ (List.mem_cons_of_mem _ (List.mem_cons_of_mem _ (List.mem_cons_of_mem _ (List.mem_cons_self))))))))))))))))))))))))) al st E h hc) (e2_fa (fun al st E h hc => (EN_69 al st E h hc).ext hp_g74) (e2_fa (fun al st E h hc => (EN_70 al st E h hc).ext hp_g74) (e2_fa (fun al st E h hc => hn_g74 _ (List.mem_cons_of_mem _ (List.mem_cons_of_mem _ (List.mem_cons_of_mem _ (List.mem_cons_of_mem _ (List.mem_cons_of_mem _ (List.mem_cons_of_mem _ (List.mem_cons_of_mem _ (List.mem_cons_of_mem _ (List.mem_cons_of_mem _ (List.mem_cons_of_mem _ (List.mem_cons_of_mem _ (List.mem_cons_of_mem _ (List.mem_cons_of_mem _ (List.mem_cons_of_mem _ (List.mem_cons_of_mem _ (List.mem_cons_of_mem _ (List.mem_cons_of_mem _ (List.mem_cons_of_mem _ (List.mem_cons_of_mem _ (List.mem_cons_of_mem _ (List.mem_cons_of_mem _ (List.mem_cons_of_mem _ (List.mem_cons_of_mem _ (List.mem_cons_of_mem _ (List.mem_cons_of_mem _ (List.mem_cons_of_mem _ (List.mem_cons_of_mem _ (List.mem_cons_of_mem _ (List.mem_cons_of_mem _ (List.mem_cons_of_mem _ (List.mem_cons_of_mem _ (List.mem_cons_of_mem _ (List.mem_cons_self))))))))))))))))))))))))))))))))) al st E h hc) (e2_fa (fun al st E h hc => hn_g74 _ (List.mem_cons_of_mem _ (List.mem_cons_of_mem _ (List.mem_cons_of_mem _ (List.mem_cons_of_mem _ (List.mem_cons_of_mem _ (List.mem_cons_of_mem _ (List.mem_cons_of_mem _ (List.mem_cons_of_mem _ (List.mem_cons_of_mem _ (List.mem_cons_of_mem _ (List.mem_cons_of_mem _ (List.mem_cons_of_mem _ (List.mem_cons_of_mem _ (List.mem_cons_of_mem _ (List.mem_cons_of_mem _ (List.mem_cons_of_mem _ (List.mem_cons_of_mem _ (List.mem_cons_of_mem _ (List.mem_cons_of_mem _ (List.mem_cons_of_mem _ (List.mem_cons_of_mem _ (List.mem_cons_of_mem _ (List.mem_cons_of_mem _ (List.mem_cons_of_mem _ (List.mem_cons_of_mem _ (List.mem_cons_of_mem _ (List.mem_cons_of_mem _ (List.mem_cons_of_mem _ (List.mem_cons_of_mem _ (List.mem_cons_of_mem _ (List.mem_cons_of_mem _ (List.mem_cons_of_mem _ (List.mem_cons_of_mem _ (List.mem_cons_self)))))))))))))))))))))))))))))))))) al st E h hc) (e2_fa (fun al st E h hc => (EN_87 al st E h hc).ext hp_g74) (e2_fa (fun al st E h hc => (EN_88 al st E h hc).ext hp_g74) (e2_fa (fun al st E h hc => (EN_96 al st E h hc).ext hp_g74) (e2_fa (fun al st E h hc => (EN_97 al st E h hc).ext hp_g74) e2_fz))))))))))))))))))))))) (hC []) (X := e2x_185) ex2_185 74 ck_b489_78)
      (e2_fa (fun r_g74 k_g hk_g hp_g74 hs_g hn_g74 => e2_fromM hen (ha.ext hp_g74) hcall (e2_cutA_ok (e2_fa (fun al st E h hc => (EN_7 al st E h hc).ext hp_g74) (e2_fa (fun al st E h hc => (EN_8 al st E h hc).ext hp_g74) (e2_fa (fun al st E h hc => (EN_16 al st E h hc).ext hp_g74) (e2_fa (fun al st E h hc => (EN_17 al st E h hc).ext hp_g74) (e2_fa (fun al st E h hc => hn_g74 _ (List.mem_cons_of_mem _ (List.mem_cons_of_mem _ (List.mem_cons_of_mem _ (List.mem_cons_of_mem _ (List.mem_cons_of_mem _ (List.mem_cons_of_mem _ (List.mem_cons_self))))))) al st E h hc) (e2_fa (fun al st E h hc => hn_g74 _ (List.mem_cons_of_mem _ (List.mem_cons_of_mem _ (List.mem_cons_of_mem _ (List.mem_cons_of_mem _ (List.mem_cons_of_mem _ (List.mem_cons_of_mem _ (List.mem_cons_of_mem _ (List.mem_cons_self)))))))) al st E h hc) (e2_fa (fun al st E h hc => (EN_34 al st E h hc).ext hp_g74) (e2_fa (fun al st E h hc => (EN_35 al st E h hc).ext hp_g74) (e2_fa (fun al st E h hc => hn_g74 _ (List.mem_cons_of_mem _ (List.mem_cons_of_mem _ (List.mem_cons_of_mem _ (List.mem_cons_of_mem _ (List.mem_cons_of_mem _ (List.mem_cons_of_mem _ (List.mem_cons_of_mem _ (List.mem_cons_of_mem _ (List.mem_cons_of_mem _ (List.mem_cons_of_mem _ (List.mem_cons_of_mem _ (List.mem_cons_of_mem _ (List.mem_cons_of_mem _ (List.mem_cons_of_mem _ (List.mem_cons_of_mem _ (List.mem_cons_self)))))))))))))))) al st E h hc) (e2_fa (fun al st E h hc => hn_g74 _ (List.mem_cons_of_mem _ (List.mem_cons_of_mem _ (List.mem_cons_of_mem _ (List.mem_cons_of_mem _ (List.mem_cons_of_mem _ (List.mem_cons_of_mem _ (List.mem_cons_of_mem _ (List.mem_cons_of_mem _ (List.mem_cons_of_mem _ (List.mem_cons_of_mem _ (List.mem_cons_of_mem _ (List.mem_cons_of_mem _ (List.mem_cons_of_mem _ (List.mem_cons_of_mem _ (List.mem_cons_of_mem _ (List.mem_cons_of_mem _ (List.mem_cons_self))))))))))))))))) al st E h hc) (e2_fa (fun al st E h hc => (EN_52 al st E h hc).ext hp_g74) (e2_fa (fun al st E h hc => (EN_53 al st E h hc).ext hp_g74) (e2_fa (fun al st E h hc => hn_g74 _ (List.mem_cons_of_mem _ (List.mem_cons_of_mem _ (List.mem_cons_of_mem _ (List.mem_cons_of_mem _ (List.mem_cons_of_mem _ (List.mem_cons_of_mem _ (List.mem_cons_of_mem _ (List.mem_cons_of_mem _ (List.mem_cons_of_mem _ (List.mem_cons_of_mem _ (List.mem_cons_of_mem _ (List.mem_cons_of_mem _ (List.mem_cons_of_mem _ (List.mem_cons_of_mem _ (List.mem_cons_of_mem _ (List.mem_cons_of_mem _ (List.mem_cons_of_mem _ (List.mem_cons_of_mem _ (List.mem_cons_of_mem _ (List.mem_cons_of_mem _ (List.mem_cons_of_mem _ (List.mem_cons_of_mem _ (List.mem_cons_of_mem _ (List.mem_cons_of_mem _ (List.mem_cons_self))))))))))))))))))))))))) al st E h hc) (e2_fa (fun al st E h hc => hn_g74 _ (List.mem_cons_of_mem _ (List.mem_cons_of_mem _ (List.mem_cons_of_mem _ (List.mem_cons_of_mem _ (List.mem_cons_of_mem _ (List.mem_cons_of_mem _ (List.mem_cons_of_mem _ (List.mem_cons_of_mem _ (List.mem_cons_of_mem _ (List.mem_cons_of_mem _ (List.mem_cons_of_mem _ (List.mem_cons_of_mem _ (List.mem_cons_of_mem _ (List.mem_cons_of_mem _ (List.mem_cons_of_mem _ (List.mem_cons_of_mem _ (List.mem_cons_of_mem _ (List.mem_cons_of_mem _ (List.mem_cons_of_mem _ (List.mem_cons_of_mem _ (List.mem_cons_of_mem _ (List.mem_cons_of_mem _ (List.mem_cons_of_mem _ (List.mem_cons_of_mem _ (List.mem_cons_of_mem _ (List.mem_cons_self)))))))))))))))))))))))))) al st E h hc) (e2_fa (fun al st E h hc => (EN_70 al st E h hc).ext hp_g74) (e2_fa (fun al st E h hc => (EN_71 al st E h hc).ext hp_g74) (e2_fa (fun al st E h hc => hn_g74 _ (List.mem_cons_of_mem _ (List.mem_cons_of_mem _ (List.mem_cons_of_mem _ (List.mem_cons_of_mem _ (List.mem_cons_of_mem _ (List.mem_cons_of_mem _ (List.mem_cons_of_mem _ (List.mem_cons_of_mem _ (List.mem_cons_of_mem _ (List.mem_cons_of_mem _ (List.mem_cons_of_mem _ (List.mem_cons_of_mem _ (List.mem_cons_of_mem _ (List.mem_cons_of_mem _ (List.mem_cons_of_mem _ (List.mem_cons_of_mem _ (List.mem_cons_of_mem _ (List.mem_cons_of_mem _ (List.mem_cons_of_mem _ (List.mem_cons_of_mem _ (List.mem_cons_of_mem _ (List.mem_cons_of_mem _ (List.mem_cons_of_mem _ (List.mem_cons_of_mem _ (List.mem_cons_of_mem _ (List.mem_cons_of_mem _ (List.mem_cons_of_mem _ (List.mem_cons_of_mem _ (List.mem_cons_of_mem _ (List.mem_cons_of_mem _ (List.mem_cons_of_mem _ (List.mem_cons_of_mem _ (List.mem_cons_of_mem _ (List.mem_cons_self)))))))))))))))))))))))))))))))))) al st E h hc) (e2_fa (fun al st E h hc => hn_g74 _ (List.mem_cons_of_mem _ (List.mem_cons_of_mem _ (List.mem_cons_of_mem _ (List.mem_cons_of_mem _ (List.mem_cons_of_mem _ (List.mem_cons_of_mem _ (List.mem_cons_of_mem _ (List.mem_cons_of_mem _ (List.mem_cons_of_mem _ (List.mem_cons_of_mem _ (List.mem_cons_of_mem _ (List.mem_cons_of_mem _ (List.mem_cons_of_mem _ (List.mem_cons_of_mem _ (List.mem_cons_of_mem _ (List.mem_cons_of_mem _ (List.mem_cons_of_mem _ (List.mem_cons_of_mem _ (List.mem_cons_of_mem _ (List.mem_cons_of_mem _ (List.mem_cons_of_mem _ (List.mem_cons_of_mem _ (List.mem_cons_of_mem _ (List.mem_cons_of_mem _ (List.mem_cons_of_mem _ (List.mem_cons_of_mem _ (List.mem_cons_of_mem _ (List.mem_cons_of_mem _ (List.mem_cons_of_mem _ (List.mem_cons_of_mem _ (List.mem_cons_of_mem _ (List.mem_cons_of_mem _ (List.mem_cons_of_mem _ (List.mem_cons_of_mem _ (List.mem_cons_self))))))))))))))))))))))))))))))))))) al st E h hc) (e2_fa (fun al st E h hc => (EN_88 al st E h hc).ext hp_g74) (e2_fa (fun al st E h hc => (EN_89 al st E h hc).ext hp_g74) (e2_fa (fun al st E h hc => (EN_97 al st E h hc).ext hp_g74) (e2_fa (fun al st E h hc => (EN_98 al st E h hc).ext hp_g74) e2_fz))))))))))))))))))))))) (hC []) (X := e2x_185) ex2_185 74 ck_b489_79)
      (e2_fa (fun r_g74 k_g hk_g hp_g74 hs_g hn_g74 => e2_fromM hen (ha.ext hp_g74) hcall (e2_cutA_ok (e2_fa (fun al st E h hc => (EN_8 al st E h hc).ext hp_g74) (e2_fa (fun al st E h hc => (EN_9 al st E h hc).ext hp_g74) (e2_fa (fun al st E h hc => (EN_17 al st E h hc).ext hp_g74) (e2_fa (fun al st E h hc => (EN_18 al st E h hc).ext hp_g74) (e2_fa (fun al st E h hc => hn_g74 _ (List.mem_cons_of_mem _ (List.mem_cons_of_mem _ (List.mem_cons_of_mem _ (List.mem_cons_of_mem _ (List.mem_cons_of_mem _ (List.mem_cons_of_mem _ (List.mem_cons_of_mem _ (List.mem_cons_self)))))))) al st E h hc) (e2_fa (fun al st E h hc => hn_g74 _ (List.mem_cons_of_mem _ (List.mem_cons_of_mem _ (List.mem_cons_of_mem _ (List.mem_cons_of_mem _ (List.mem_cons_of_mem _ (List.mem_cons_of_mem _ (List.mem_cons_of_mem _ (List.mem_cons_of_mem _ (List.mem_cons_self))))))))) al st E h hc) (e2_fa (fun al st E h hc => (EN_35 al st E h hc).ext hp_g74) (e2_fa (fun al st E h hc => (EN_36 al st E h hc).ext hp_g74) (e2_fa (fun al st E h hc => hn_g74 _ (List.mem_cons_of_mem _ (List.mem_cons_of_mem _ (List.mem_cons_of_mem _ (List.mem_cons_of_mem _ (List.mem_cons_of_mem _ (List.mem_cons_of_mem _ (List.mem_cons_of_mem _ (List.mem_cons_of_mem _ (List.mem_cons_of_mem _ (List.mem_cons_of_mem _ (List.mem_cons_of_mem _ (List.mem_cons_of_mem _ (List.mem_cons_of_mem _ (List.mem_cons_of_mem _ (List.mem_cons_of_mem _ (List.mem_cons_of_mem _ (List.mem_cons_self))))))))))))))))) al st E h hc) (e2_fa (fun al st E h hc => hn_g74 _ (List.mem_cons_of_mem _ (List.mem_cons_of_mem _ (List.mem_cons_of_mem _ (List.mem_cons_of_mem _ (List.mem_cons_of_mem _ (List.mem_cons_of_mem _ (List.mem_cons_of_mem _ (List.mem_cons_of_mem _ (List.mem_cons_of_mem _ (List.mem_cons_of_mem _ (List.mem_cons_of_mem _ (List.mem_cons_of_mem _ (List.mem_cons_of_mem _ (List.mem_cons_of_mem _ (List.mem_cons_of_mem _ (List.mem_cons_of_mem _ (List.mem_cons_of_mem _ (List.mem_cons_self)))))))))))))))))) al st E h hc) (e2_fa (fun al st E h hc => (EN_53 al st E h hc).ext hp_g74) (e2_fa (fun al st E h hc => (EN_54 al st E h hc).ext hp_g74) (e2_fa (fun al st E h hc => hn_g74 _ (List.mem_cons_of_mem _ (List.mem_cons_of_mem _ (List.mem_cons_of_mem _ (List.mem_cons_of_mem _ (List.mem_cons_of_mem _ (List.mem_cons_of_mem _ (List.mem_cons_of_mem _ (List.mem_cons_of_mem _ (List.mem_cons_of_mem _ (List.mem_cons_of_mem _ (List.mem_cons_of_mem _ (List.mem_cons_of_mem _ (List.mem_cons_of_mem _ (List.mem_cons_of_mem _ (List.mem_cons_of_mem _ (List.mem_cons_of_mem _ (List.mem_cons_of_mem _ (List.mem_cons_of_mem _ (List.mem_cons_of_mem _ (List.mem_cons_of_mem _ (List.mem_cons_of_mem _ (List.mem_cons_of_mem _ (List.mem_cons_of_mem _ (List.mem_cons_of_mem _ (List.mem_cons_of_mem _ (List.mem_cons_self)))))))))))))))))))))))))) al st E h hc) (e2_fa (fun al st E h hc => hn_g74 _ (List.mem_cons_of_mem _ (List.mem_cons_of_mem _ (List.mem_cons_of_mem _ (List.mem_cons_of_mem _ (List.mem_cons_of_mem _ (List.mem_cons_of_mem _ (List.mem_cons_of_mem _ (List.mem_cons_of_mem _ (List.mem_cons_of_mem _ (List.mem_cons_of_mem _ (List.mem_cons_of_mem _ (List.mem_cons_of_mem _ (List.mem_cons_of_mem _ (List.mem_cons_of_mem _ (List.mem_cons_of_mem _ (List.mem_cons_of_mem _ (List.mem_cons_of_mem _ (List.mem_cons_of_mem _ (List.mem_cons_of_mem _ (List.mem_cons_of_mem _ (List.mem_cons_of_mem _ (List.mem_cons_of_mem _ (List.mem_cons_of_mem _ (List.mem_cons_of_mem _ (List.mem_cons_of_mem _ (List.mem_cons_of_mem _ (List.mem_cons_self))))))))))))))))))))))))))) al st E h hc) (e2_fa (fun al st E h hc => (EN_71 al st E h hc).ext hp_g74) (e2_fa (fun al st E h hc => (EN_72 al st E h hc).ext hp_g74) (e2_fa (fun al st E h hc => hn_g74 _ (List.mem_cons_of_mem _ (List.mem_cons_of_mem _ (List.mem_cons_of_mem _ (List.mem_cons_of_mem _ (List.mem_cons_of_mem _ (List.mem_cons_of_mem _ (List.mem_cons_of_mem _ (List.mem_cons_of_mem _ (List.mem_cons_of_mem _ (List.mem_cons_of_mem _ (List.mem_cons_of_mem _ (List.mem_cons_of_mem _ (List.mem_cons_of_mem _ (List.mem_cons_of_mem _ (List.mem_cons_of_mem _ (List.mem_cons_of_mem _ (List.mem_cons_of_mem _ (List.mem_cons_of_mem _ (List.mem_cons_of_mem _ (List.mem_cons_of_mem _ (List.mem_cons_of_mem _ (List.mem_cons_of_mem _ (List.mem_cons_of_mem _ (List.mem_cons_of_mem _ (List.mem_cons_of_mem _ (List.mem_cons_of_mem _ (List.mem_cons_of_mem _ (List.mem_cons_of_mem _ (List.mem_cons_of_mem _ (List.mem_cons_of_mem _ (List.mem_cons_of_mem _ (List.mem_cons_of_mem _ (List.mem_cons_of_mem _ (List.mem_cons_of_mem _ (List.mem_cons_self))))))))))))))))))))))))))))))))))) al st E h hc) (e2_fa (fun al st E h hc => hn_g74 _ (List.mem_cons_of_mem _ (List.mem_cons_of_mem _ (List.mem_cons_of_mem _ (List.mem_cons_of_mem _ (List.mem_cons_of_mem _ (List.mem_cons_of_mem _ (List.mem_cons_of_mem _ (List.mem_cons_of_mem _ (List.mem_cons_of_mem _ (List.mem_cons_of_mem _ (List.mem_cons_of_mem _ (List.mem_cons_of_mem _ (List.mem_cons_of_mem _ (List.mem_cons_of_mem _ (List.mem_cons_of_mem _ (List.mem_cons_of_mem _ (List.mem_cons_of_mem _ (List.mem_cons_of_mem _ (List.mem_cons_of_mem _ (List.mem_cons_of_mem _ (List.mem_cons_of_mem _ (List.mem_cons_of_mem _ (List.mem_cons_of_mem _ (List.mem_cons_of_mem _ (List.mem_cons_of_mem _ (List.mem_cons_of_mem _ (List.mem_cons_of_mem _ (List.mem_cons_of_mem _ (List.mem_cons_of_mem _ (List.mem_cons_of_mem _ (List.mem_cons_of_mem _ (List.mem_cons_of_mem _ (List.mem_cons_of_mem _ (List.mem_cons_of_mem _ (List.mem_cons_of_mem _ (List.mem_cons_self)))))))))))))))))))))))))))))))))))) al st E h hc) (e2_fa (fun al st E h hc => (EN_89 al st E h hc).ext hp_g74) (e2_fa (fun al st E h hc => (EN_90 al st E h hc).ext hp_g74) (e2_fa (fun al st E h hc => (EN_98 al st E h hc).ext hp_g74) (e2_fa (fun al st E h hc => (EN_99 al st E h hc).ext hp_g74) e2_fz))))))))))))))))))))))) (hC []) (X := e2x_185) ex2_185 74 ck_b489_80)
      (e2_fa (fun r_g74 k_g hk_g hp_g74 hs_g hn_g74 => e2_fromM hen (ha.ext hp_g74) hcall (e2_cutA_ok (e2_fa (fun al st E h hc => (EN_9 al st E h hc).ext hp_g74) (e2_fa (fun al st E h hc => (EN_18 al st E h hc).ext hp_g74) (e2_fa (fun al st E h hc => hn_g74 _ (List.mem_cons_of_mem _ (List.mem_cons_of_mem _ (List.mem_cons_of_mem _ (List.mem_cons_of_mem _ (List.mem_cons_of_mem _ (List.mem_cons_of_mem _ (List.mem_cons_of_mem _ (List.mem_cons_of_mem _ (List.mem_cons_self))))))))) al st E h hc) (e2_fa (fun al st E h hc => (EN_36 al st E h hc).ext hp_g74) (e2_fa (fun al st E h hc => hn_g74 _ (List.mem_cons_of_mem _ (List.mem_cons_of_mem _ (List.mem_cons_of_mem _ (List.mem_cons_of_mem _ (List.mem_cons_of_mem _ (List.mem_cons_of_mem _ (List.mem_cons_of_mem _ (List.mem_cons_of_mem _ (List.mem_cons_of_mem _ (List.mem_cons_of_mem _ (List.mem_cons_of_mem _ (List.mem_cons_of_mem _ (List.mem_cons_of_mem _ (List.mem_cons_of_mem _ (List.mem_cons_of_mem _ (List.mem_cons_of_mem _ (List.mem_cons_of_mem _ (List.mem_cons_self)))))))))))))))))) al st E h hc) (e2_fa (fun al st E h hc => (EN_54 al st E h hc).ext hp_g74) (e2_fa (fun al st E h hc => hn_g74 _ (List.mem_cons_of_mem _ (List.mem_cons_of_mem _ (List.mem_cons_of_mem _ (List.mem_cons_of_mem _ (List.mem_cons_of_mem _ (List.mem_cons_of_mem _ (List.mem_cons_of_mem _ (List.mem_cons_of_mem _ (List.mem_cons_of_mem _ (List.mem_cons_of_mem _ (List.mem_cons_of_mem _ (List.mem_cons_of_mem _ (List.mem_cons_of_mem _ (List.mem_cons_of_mem _ (List.mem_cons_of_mem _ (List.mem_cons_of_mem _ (List.mem_cons_of_mem _ (List.mem_cons_of_mem _ (List.mem_cons_of_mem _ (List.mem_cons_of_mem _ (List.mem_cons_of_mem _ (List.mem_cons_of_mem _ (List.mem_cons_of_mem _ (List.mem_cons_of_mem _ (List.mem_cons_of_mem _ (List.mem_cons_of_mem _ (List.mem_cons_self))))))))))))))))))))))))))) al st E h hc) (e2_fa (fun al st E h hc => (EN_72 al st E h hc).ext hp_g74) (e2_fa (fun al st E h hc => hn_g74 _ (List.mem_cons_of_mem _ (List.mem_cons_of_mem _ (List.mem_cons_of_mem _ (List.mem_cons_of_mem _ (List.mem_cons_of_mem _ (List.mem_cons_of_mem _ (List.mem_cons_of_mem _ (List.mem_cons_of_mem _ (List.mem_cons_of_mem _ (List.mem_cons_of_mem _ (List.mem_cons_of_mem _ (List.mem_cons_of_mem _ (List.mem_cons_of_mem _ (List.mem_cons_of_mem _ (List.mem_cons_of_mem _ (List.mem_cons_of_mem _ (List.mem_cons_of_mem _ (List.mem_cons_of_mem _ (List.mem_cons_of_mem _ (List.mem_cons_of_mem _ (List.mem_cons_of_mem _ (List.mem_cons_of_mem _ (List.mem_cons_of_mem _ (List.mem_cons_of_mem _ (List.mem_cons_of_mem _ (List.mem_cons_of_mem _ (List.mem_cons_of_mem _ (List.mem_cons_of_mem _ (List.mem_cons_of_mem _ (List.mem_cons_of_mem _ (List.mem_cons_of_mem _ (List.mem_cons_of_mem _ (List.mem_cons_of_mem _ (List.mem_cons_of_mem _ (List.mem_cons_of_mem _ (List.mem_cons_self)))))))))))))))))))))))))))))))))))) al st E h hc) (e2_fa (fun al st E h hc => (EN_90 al st E h hc).ext hp_g74) (e2_fa (fun al st E h hc => (EN_99 al st E h hc).ext hp_g74) e2_fz)))))))))))) (hC []) (X := e2x_185) ex2_185 74 ck_b489_81)
      e2_fz))))))))))))))))))))))))))))))))))))
  have EN_19 := e2_entH (u := 2) (a := 83) (j := 37) (lo := 2147483648) (hi := 2147485249) hl0 rfl rfl (by decide) cg_b489_19.1 cg_b489_19.2 ci_b489_19 cj_b489_19 rfl (LG_74 _ (List.mem_cons_self))
  have EN_20 := e2_entH (u := 2) (a := 83) (j := 37) (lo := 2147483648) (hi := 2147485249) hl0 rfl rfl (by decide) cg_b489_20.1 cg_b489_20.2 ci_b489_20 cj_b489_20 rfl (LG_74 _ (List.mem_cons_of_mem _ (List.mem_cons_self)))
  have EN_21 := e2_entH (u := 2) (a := 83) (j := 37) (lo := 2147483648) (hi := 2147485249) hl0 rfl rfl (by decide) cg_b489_21.1 cg_b489_21.2 ci_b489_21 cj_b489_21 rfl (LG_74 _ (List.mem_cons_of_mem _ (List.mem_cons_of_mem _ (List.mem_cons_self))))
  have EN_22 := e2_entH (u := 2) (a := 83) (j := 37) (lo := 2147483648) (hi := 2147485249) hl0 rfl rfl (by decide) cg_b489_22.1 cg_b489_22.2 ci_b489_22 cj_b489_22 rfl (LG_74 _ (List.mem_cons_of_mem _ (List.mem_cons_of_mem _ (List.mem_cons_of_mem _ (List.mem_cons_self)))))
  have EN_23 := e2_entH (u := 2) (a := 83) (j := 37) (lo := 2147483648) (hi := 2147485249) hl0 rfl rfl (by decide) cg_b489_23.1 cg_b489_23.2 ci_b489_23 cj_b489_23 rfl (LG_74 _ (List.mem_cons_of_mem _ (List.mem_cons_of_mem _ (List.mem_cons_of_mem _ (List.mem_cons_of_mem _ (List.mem_cons_self))))))
  have EN_24 := e2_entH (u := 2) (a := 83) (j := 37) (lo := 2147483648) (hi := 2147485249) hl0 rfl rfl (by decide) cg_b489_24.1 cg_b489_24.2 ci_b489_24 cj_b489_24 rfl (LG_74 _ (List.mem_cons_of_mem _ (List.mem_cons_of_mem _ (List.mem_cons_of_mem _ (List.mem_cons_of_mem _ (List.mem_cons_of_mem _ (List.mem_cons_self)))))))
  have EN_25 := e2_entH (u := 2) (a := 83) (j := 37) (lo := 2147483648) (hi := 2147485249) hl0 rfl rfl (by decide) cg_b489_25.1 cg_b489_25.2 ci_b489_25 cj_b489_25 rfl (LG_74 _ (List.mem_cons_of_mem _ (List.mem_cons_of_mem _ (List.mem_cons_of_mem _ (List.mem_cons_of_mem _ (List.mem_cons_of_mem _ (List.mem_cons_of_mem _ (List.mem_cons_self))))))))
  have EN_26 := e2_entH (u := 2) (a := 83) (j := 37) (lo := 2147483648) (hi := 2147485249) hl0 rfl rfl (by decide) cg_b489_26.1 cg_b489_26.2 ci_b489_26 cj_b489_26 rfl (LG_74 _ (List.mem_cons_of_mem _ (List.mem_cons_of_mem _ (List.mem_cons_of_mem _ (List.mem_cons_of_mem _ (List.mem_cons_of_mem _ (List.mem_cons_of_mem _ (List.mem_cons_of_mem _ (List.mem_cons_self)))))))))
  have EN_27 := e2_entH (u := 2) (a := 83) (j := 37) (lo := 2147483648) (hi := 2147485249) hl0 rfl rfl (by decide) cg_b489_27.1 cg_b489_27.2 ci_b489_27 cj_b489_27 rfl (LG_74 _ (List.mem_cons_of_mem _ (List.mem_cons_of_mem _ (List.mem_cons_of_mem _ (List.mem_cons_of_mem _ (List.mem_cons_of_mem _ (List.mem_cons_of_mem _ (List.mem_cons_of_mem _ (List.mem_cons_of_mem _ (List.mem_cons_self))))))))))
  have EN_37 := e2_entH (u := 2) (a := 83) (j := 37) (lo := 2147483648) (hi := 2147485249) hl0 rfl rfl (by decide) cg_b489_37.1 cg_b489_37.2 ci_b489_37 cj_b489_37 rfl (LG_74 _ (List.mem_cons_of_mem _ (List.mem_cons_of_mem _ (List.mem_cons_of_mem _ (List.mem_cons_of_mem _ (List.mem_cons_of_mem _ (List.mem_cons_of_mem _ (List.mem_cons_of_mem _ (List.mem_cons_of_mem _ (List.mem_cons_of_mem _ (List.mem_cons_self)))))))))))
  have EN_38 := e2_entH (u := 2) (a := 83) (j := 37) (lo := 2147483648) (hi := 2147485249) hl0 rfl rfl (by decide) cg_b489_38.1 cg_b489_38.2 ci_b489_38 cj_b489_38 rfl (LG_74 _ (List.mem_cons_of_mem _ (List.mem_cons_of_mem _ (List.mem_cons_of_mem _ (List.mem_cons_of_mem _ (List.mem_cons_of_mem _ (List.mem_cons_of_mem _ (List.mem_cons_of_mem _ (List.mem_cons_of_mem _ (List.mem_cons_of_mem _ (List.mem_cons_of_mem _ (List.mem_cons_self))))))))))))
  have EN_39 := e2_entH (u := 2) (a := 83) (j := 37) (lo := 2147483648) (hi := 2147485249) hl0 rfl rfl (by decide) cg_b489_39.1 cg_b489_39.2 ci_b489_39 cj_b489_39 rfl (LG_74 _ (List.mem_cons_of_mem _ (List.mem_cons_of_mem _ (List.mem_cons_of_mem _ (List.mem_cons_of_mem _ (List.mem_cons_of_mem _ (List.mem_cons_of_mem _ (List.mem_cons_of_mem _ (List.mem_cons_of_mem _ (List.mem_cons_of_mem _ (List.mem_cons_of_mem _ (List.mem_cons_of_mem _ (List.mem_cons_self)))))))))))))
  have EN_40 := e2_entH (u := 2) (a := 83) (j := 37) (lo := 2147483648) (hi := 2147485249) hl0 rfl rfl (by decide) cg_b489_40.1 cg_b489_40.2 ci_b489_40 cj_b489_40 rfl (LG_74 _ (List.mem_cons_of_mem _ (List.mem_cons_of_mem _ (List.mem_cons_of_mem _ (List.mem_cons_of_mem _ (List.mem_cons_of_mem _ (List.mem_cons_of_mem _ (List.mem_cons_of_mem _ (List.mem_cons_of_mem _ (List.mem_cons_of_mem _ (List.mem_cons_of_mem _ (List.mem_cons_of_mem _ (List.mem_cons_of_mem _ (List.mem_cons_self))))))))))))))
  have EN_41 := e2_entH (u := 2) (a := 83) (j := 37) (lo := 2147483648) (hi := 2147485249) hl0 rfl rfl (by decide) cg_b489_41.1 cg_b489_41.2 ci_b489_41 cj_b489_41 rfl (LG_74 _ (List.mem_cons_of_mem _ (List.mem_cons_of_mem _ (List.mem_cons_of_mem _ (List.mem_cons_of_mem _ (List.mem_cons_of_mem _ (List.mem_cons_of_mem _ (List.mem_cons_of_mem _ (List.mem_cons_of_mem _ (List.mem_cons_of_mem _ (List.mem_cons_of_mem _ (List.mem_cons_of_mem _ (List.mem_cons_of_mem _ (List.mem_cons_of_mem _ (List.mem_cons_self)))))))))))))))
  have EN_42 := e2_entH (u := 2) (a := 83) (j := 37) (lo := 2147483648) (hi := 2147485249) hl0 rfl rfl (by decide) cg_b489_42.1 cg_b489_42.2 ci_b489_42 cj_b489_42 rfl (LG_74 _ (List.mem_cons_of_mem _ (List.mem_cons_of_mem _ (List.mem_cons_of_mem _ (List.mem_cons_of_mem _ (List.mem_cons_of_mem _ (List.mem_cons_of_mem _ (List.mem_cons_of_mem _ (List.mem_cons_of_mem _ (List.mem_cons_of_mem _ (List.mem_cons_of_mem _ (List.mem_cons_of_mem _ (List.mem_cons_of_mem _ (List.mem_cons_of_mem _ (List.mem_cons_of_mem _ (List.mem_cons_self))))))))))))))))
  have EN_43 := e2_entH (u := 2) (a := 83) (j := 37) (lo := 2147483648) (hi := 2147485249) hl0 rfl rfl (by decide) cg_b489_43.1 cg_b489_43.2 ci_b489_43 cj_b489_43 rfl (LG_74 _ (List.mem_cons_of_mem _ (List.mem_cons_of_mem _ (List.mem_cons_of_mem _ (List.mem_cons_of_mem _ (List.mem_cons_of_mem _ (List.mem_cons_of_mem _ (List.mem_cons_of_mem _ (List.mem_cons_of_mem _ (List.mem_cons_of_mem _ (List.mem_cons_of_mem _ (List.mem_cons_of_mem _ (List.mem_cons_of_mem _ (List.mem_cons_of_mem _ (List.mem_cons_of_mem _ (List.mem_cons_of_mem _ (List.mem_cons_self)))))))))))))))))
  have EN_44 := e2_entH (u := 2) (a := 83) (j := 37) (lo := 2147483648) (hi := 2147485249) hl0 rfl rfl (by decide) cg_b489_44.1 cg_b489_44.2 ci_b489_44 cj_b489_44 rfl (LG_74 _ (List.mem_cons_of_mem _ (List.mem_cons_of_mem _ (List.mem_cons_of_mem _ (List.mem_cons_of_mem _ (List.mem_cons_of_mem _ (List.mem_cons_of_mem _ (List.mem_cons_of_mem _ (List.mem_cons_of_mem _ (List.mem_cons_of_mem _ (List.mem_cons_of_mem _ (List.mem_cons_of_mem _ (List.mem_cons_of_mem _ (List.mem_cons_of_mem _ (List.mem_cons_of_mem _ (List.mem_cons_of_mem _ (List.mem_cons_of_mem _ (List.mem_cons_self))))))))))))))))))
  have EN_45 := e2_entH (u := 2) (a := 83) (j := 37) (lo := 2147483648) (hi := 2147485249) hl0 rfl rfl (by decide) cg_b489_45.1 cg_b489_45.2 ci_b489_45 cj_b489_45 rfl (LG_74 _ (List.mem_cons_of_mem _ (List.mem_cons_of_mem _ (List.mem_cons_of_mem _ (List.mem_cons_of_mem _ (List.mem_cons_of_mem _ (List.mem_cons_of_mem _ (List.mem_cons_of_mem _ (List.mem_cons_of_mem _ (List.mem_cons_of_mem _ (List.mem_cons_of_mem _ (List.mem_cons_of_mem _ (List.mem_cons_of_mem _ (List.mem_cons_of_mem _ (List.mem_cons_of_mem _ (List.mem_cons_of_mem _ (List.mem_cons_of_mem _ (List.mem_cons_of_mem _ (List.mem_cons_self)))))))))))))))))))
  have EN_55 := e2_entH (u := 2) (a := 83) (j := 37) (lo := 2147483648) (hi := 2147485249) hl0 rfl rfl (by decide) cg_b489_55.1 cg_b489_55.2 ci_b489_55 cj_b489_55 rfl (LG_74 _ (List.mem_cons_of_mem _ (List.mem_cons_of_mem _ (List.mem_cons_of_mem _ (List.mem_cons_of_mem _ (List.mem_cons_of_mem _ (List.mem_cons_of_mem _ (List.mem_cons_of_mem _ (List.mem_cons_of_mem _ (List.mem_cons_of_mem _ (List.mem_cons_of_mem _ (List.mem_cons_of_mem _ (List.mem_cons_of_mem _ (List.mem_cons_of_mem _ (List.mem_cons_of_mem _ (List.mem_cons_of_mem _ (List.mem_cons_of_mem _ (List.mem_cons_of_mem _ (List.mem_cons_of_mem _ (List.mem_cons_self))))))))))))))))))))
  have EN_56 := e2_entH (u := 2) (a := 83) (j := 37) (lo := 2147483648) (hi := 2147485249) hl0 rfl rfl (by decide) cg_b489_56.1 cg_b489_56.2 ci_b489_56 cj_b489_56 rfl (LG_74 _ (List.mem_cons_of_mem _ (List.mem_cons_of_mem _ (List.mem_cons_of_mem _ (List.mem_cons_of_mem _ (List.mem_cons_of_mem _ (List.mem_cons_of_mem _ (List.mem_cons_of_mem _ (List.mem_cons_of_mem _ (List.mem_cons_of_mem _ (List.mem_cons_of_mem _ (List.mem_cons_of_mem _ (List.mem_cons_of_mem _ (List.mem_cons_of_mem _ (List.mem_cons_of_mem _ (List.mem_cons_of_mem _ (List.mem_cons_of_mem _ (List.mem_cons_of_mem _ (List.mem_cons_of_mem _ (List.mem_cons_of_mem _ (List.mem_cons_self)))))))))))))))))))))
  have EN_57 := e2_entH (u := 2) (a := 83) (j := 37) (lo := 2147483648) (hi := 2147485249) hl0 rfl rfl (by decide) cg_b489_57.1 cg_b489_57.2 ci_b489_57 cj_b489_57 rfl (LG_74 _ (List.mem_cons_of_mem _ (List.mem_cons_of_mem _ (List.mem_cons_of_mem _ (List.mem_cons_of_mem _ (List.mem_cons_of_mem _ (List.mem_cons_of_mem _ (List.mem_cons_of_mem _ (List.mem_cons_of_mem _ (List.mem_cons_of_mem _ (List.mem_cons_of_mem _ (List.mem_cons_of_mem _ (List.mem_cons_of_mem _ (List.mem_cons_of_mem _ (List.mem_cons_of_mem _ (List.mem_cons_of_mem _ (List.mem_cons_of_mem _ (List.mem_cons_of_mem _ (List.mem_cons_of_mem _ (List.mem_cons_of_mem _ (List.mem_cons_of_mem _ (List.mem_cons_self))))))))))))))))))))))
  have EN_58 := e2_entH (u := 2) (a := 83) (j := 37) (lo := 2147483648) (hi := 2147485249) hl0 rfl rfl (by decide) cg_b489_58.1 cg_b489_58.2 ci_b489_58 cj_b489_58 rfl (LG_74 _ (List.mem_cons_of_mem _ (List.mem_cons_of_mem _ (List.mem_cons_of_mem _ (List.mem_cons_of_mem _ (List.mem_cons_of_mem _ (List.mem_cons_of_mem _ (List.mem_cons_of_mem _ (List.mem_cons_of_mem _ (List.mem_cons_of_mem _ (List.mem_cons_of_mem _ (List.mem_cons_of_mem _ (List.mem_cons_of_mem _ (List.mem_cons_of_mem _ (List.mem_cons_of_mem _ (List.mem_cons_of_mem _ (List.mem_cons_of_mem _ (List.mem_cons_of_mem _ (List.mem_cons_of_mem _ (List.mem_cons_of_mem _ (List.mem_cons_of_mem _ (List.mem_cons_of_mem _ (List.mem_cons_self)))))))))))))))))))))))
  have EN_59 := e2_entH (u := 2) (a := 83) (j := 37) (lo := 2147483648) (hi := 2147485249) hl0 rfl rfl (by decide) cg_b489_59.1 cg_b489_59.2 ci_b489_59 cj_b489_59 rfl (LG_74 _ (List.mem_cons_of_mem _ (List.mem_cons_of_mem _ (List.mem_cons_of_mem _ (List.mem_cons_of_mem _ (List.mem_cons_of_mem _ (List.mem_cons_of_mem _ (List.mem_cons_of_mem _ (List.mem_cons_of_mem _ (List.mem_cons_of_mem _ (List.mem_cons_of_mem _ (List.mem_cons_of_mem _ (List.mem_cons_of_mem _ (List.mem_cons_of_mem _ (List.mem_cons_of_mem _ (List.mem_cons_of_mem _ (List.mem_cons_of_mem _ (List.mem_cons_of_mem _ (List.mem_cons_of_mem _ (List.mem_cons_of_mem _ (List.mem_cons_of_mem _ (List.mem_cons_of_mem _ (List.mem_cons_of_mem _ (List.mem_cons_self))))))))))))))))))))))))
  have EN_60 := e2_entH (u := 2) (a := 83) (j := 37) (lo := 2147483648) (hi := 2147485249) hl0 rfl rfl (by decide) cg_b489_60.1 cg_b489_60.2 ci_b489_60 cj_b489_60 rfl (LG_74 _ (List.mem_cons_of_mem _ (List.mem_cons_of_mem _ (List.mem_cons_of_mem _ (List.mem_cons_of_mem _ (List.mem_cons_of_mem _ (List.mem_cons_of_mem _ (List.mem_cons_of_mem _ (List.mem_cons_of_mem _ (List.mem_cons_of_mem _ (List.mem_cons_of_mem _ (List.mem_cons_of_mem _ (List.mem_cons_of_mem _ (List.mem_cons_of_mem _ (List.mem_cons_of_mem _ (List.mem_cons_of_mem _ (List.mem_cons_of_mem _ (List.mem_cons_of_mem _ (List.mem_cons_of_mem _ (List.mem_cons_of_mem _ (List.mem_cons_of_mem _ (List.mem_cons_of_mem _ (List.mem_cons_of_mem _ (List.mem_cons_of_mem _ (List.mem_cons_self)))))))))))))))))))))))))
  have EN_61 := e2_entH (u := 2) (a := 83) (j := 37) (lo := 2147483648) (hi := 2147485249) hl0 rfl rfl (by decide) cg_b489_61.1 cg_b489_61.2 ci_b489_61 cj_b489_61 rfl (LG_74 _ (List.mem_cons_of_mem _ (List.mem_cons_of_mem _ (List.mem_cons_of_mem _ (List.mem_cons_of_mem _ (List.mem_cons_of_mem _ (List.mem_cons_of_mem _ (List.mem_cons_of_mem _ (List.mem_cons_of_mem _ (List.mem_cons_of_mem _ (List.mem_cons_of_mem _ (List.mem_cons_of_mem _ (List.mem_cons_of_mem _ (List.mem_cons_of_mem _ (List.mem_cons_of_mem _ (List.mem_cons_of_mem _ (List.mem_cons_of_mem _ (List.mem_cons_of_mem _ (List.mem_cons_of_mem _ (List.mem_cons_of_mem _ (List.mem_cons_of_mem _ (List.mem_cons_of_mem _ (List.mem_cons_of_mem _ (List.mem_cons_of_mem _ (List.mem_cons_of_mem _ (List.mem_cons_self))))))))))))))))))))))))))
  have EN_62 := e2_entH (u := 2) (a := 83) (j := 37) (lo := 2147483648) (hi := 2147485249) hl0 rfl rfl (by decide) cg_b489_62.1 cg_b489_62.2 ci_b489_62 cj_b489_62 rfl (LG_74 _ (List.mem_cons_of_mem _ (List.mem_cons_of_mem _ (List.mem_cons_of_mem _ (List.mem_cons_of_mem _ (List.mem_cons_of_mem _ (List.mem_cons_of_mem _ (List.mem_cons_of_mem _ (List.mem_cons_of_mem _ (List.mem_cons_of_mem _ (List.mem_cons_of_mem _ (List.mem_cons_of_mem _ (List.mem_cons_of_mem _ (List.mem_cons_of_mem _ (List.mem_cons_of_mem _ (List.mem_cons_of_mem _ (List.mem_cons_of_mem _ (List.mem_cons_of_mem _ (List.mem_cons_of_mem _ (List.mem_cons_of_mem _ (List.mem_cons_of_mem _ (List.mem_cons_of_mem _ (List.mem_cons_of_mem _ (List.mem_cons_of_mem _ (List.mem_cons_of_mem _ (List.mem_cons_of_mem _ (List.mem_cons_self)))))))))))))))))))))))))))
  have EN_63 := e2_entH (u := 2) (a := 83) (j := 37) (lo := 2147483648) (hi := 2147485249) hl0 rfl rfl (by decide) cg_b489_63.1 cg_b489_63.2 ci_b489_63 cj_b489_63 rfl (LG_74 _ (List.mem_cons_of_mem _ (List.mem_cons_of_mem _ (List.mem_cons_of_mem _ (List.mem_cons_of_mem _ (List.mem_cons_of_mem _ (List.mem_cons_of_mem _ (List.mem_cons_of_mem _ (List.mem_cons_of_mem _ (List.mem_cons_of_mem _ (List.mem_cons_of_mem _ (List.mem_cons_of_mem _ (List.mem_cons_of_mem _ (List.mem_cons_of_mem _ (List.mem_cons_of_mem _ (List.mem_cons_of_mem _ (List.mem_cons_of_mem _ (List.mem_cons_of_mem _ (List.mem_cons_of_mem _ (List.mem_cons_of_mem _ (List.mem_cons_of_mem _ (List.mem_cons_of_mem _ (List.mem_cons_of_mem _ (List.mem_cons_of_mem _ (List.mem_cons_of_mem _ (List.mem_cons_of_mem _ (List.mem_cons_of_mem _ (List.mem_cons_self))))))))))))))))))))))))))))
  have EN_73 := e2_entH (u := 2) (a := 83) (j := 37) (lo := 2147483648) (hi := 2147485249) hl0 rfl rfl (by decide) cg_b489_73.1 cg_b489_73.2 ci_b489_73 cj_b489_73 rfl (LG_74 _ (List.mem_cons_of_mem _ (List.mem_cons_of_mem _ (List.mem_cons_of_mem _ (List.mem_cons_of_mem _ (List.mem_cons_of_mem _ (List.mem_cons_of_mem _ (List.mem_cons_of_mem _ (List.mem_cons_of_mem _ (List.mem_cons_of_mem _ (List.mem_cons_of_mem _ (List.mem_cons_of_mem _ (List.mem_cons_of_mem _ (List.mem_cons_of_mem _ (List.mem_cons_of_mem _ (List.mem_cons_of_mem _ (List.mem_cons_of_mem _ (List.mem_cons_of_mem _ (List.mem_cons_of_mem _ (List.mem_cons_of_mem _ (List.mem_cons_of_mem _ (List.mem_cons_of_mem _ (List.mem_cons_of_mem _ (List.mem_cons_of_mem _ (List.mem_cons_of_mem _ (List.mem_cons_of_mem _ (List.mem_cons_of_mem _ (List.mem_cons_of_mem _ (List.mem_cons_self)))))))))))))))))))))))))))))
  have EN_74 := e2_entH (u := 2) (a := 83) (j := 37) (lo := 2147483648) (hi := 2147485249) hl0 rfl rfl (by decide) cg_b489_74.1 cg_b489_74.2 ci_b489_74 cj_b489_74 rfl (LG_74 _ (List.mem_cons_of_mem _ (List.mem_cons_of_mem _ (List.mem_cons_of_mem _ (List.mem_cons_of_mem _ (List.mem_cons_of_mem _ (List.mem_cons_of_mem _ (List.mem_cons_of_mem _ (List.mem_cons_of_mem _ (List.mem_cons_of_mem _ (List.mem_cons_of_mem _ (List.mem_cons_of_mem _ (List.mem_cons_of_mem _ (List.mem_cons_of_mem _ (List.mem_cons_of_mem _ (List.mem_cons_of_mem _ (List.mem_cons_of_mem _ (List.mem_cons_of_mem _ (List.mem_cons_of_mem _ (List.mem_cons_of_mem _ (List.mem_cons_of_mem _ (List.mem_cons_of_mem _ (List.mem_cons_of_mem _ (List.mem_cons_of_mem _ (List.mem_cons_of_mem _ (List.mem_cons_of_mem _ (List.mem_cons_of_mem _ (List.mem_cons_of_mem _ (List.mem_cons_of_mem _ (List.mem_cons_self))))))))))))))))))))))))))))))
  have EN_75 := e2_entH (u := 2) (a := 83) (j := 37) (lo := 2147483648) (hi := 2147485249) hl0 rfl rfl (by decide) cg_b489_75.1 cg_b489_75.2 ci_b489_75 cj_b489_75 rfl (LG_74 _ (List.mem_cons_of_mem _ (List.mem_cons_of_mem _ (List.mem_cons_of_mem _ (List.mem_cons_of_mem _ (List.mem_cons_of_mem _ (List.mem_cons_of_mem _ (List.mem_cons_of_mem _ (List.mem_cons_of_mem _ (List.mem_cons_of_mem _ (List.mem_cons_of_mem _ (List.mem_cons_of_mem _ (List.mem_cons_of_mem _ (List.mem_cons_of_mem _ (List.mem_cons_of_mem _ (List.mem_cons_of_mem _ (List.mem_cons_of_mem _ (List.mem_cons_of_mem _ (List.mem_cons_of_mem _ (List.mem_cons_of_mem _ (List.mem_cons_of_mem _ (List.mem_cons_of_mem _ (List.mem_cons_of_mem _ (List.mem_cons_of_mem _ (List.mem_cons_of_mem _ (List.mem_cons_of_mem _ (List.mem_cons_of_mem _ (List.mem_cons_of_mem _ (List.mem_cons_of_mem _ (List.mem_cons_of_mem _ (List.mem_cons_self)))))))))))))))))))))))))))))))
  have EN_76 := e2_entH (u := 2) (a := 83) (j := 37) (lo := 2147483648) (hi := 2147485249) hl0 rfl rfl (by decide) cg_b489_76.1 cg_b489_76.2 ci_b489_76 cj_b489_76 rfl (LG_74 _ (List.mem_cons_of_mem _ (List.mem_cons_of_mem _ (List.mem_cons_of_mem _ (List.mem_cons_of_mem _ (List.mem_cons_of_mem _ (List.mem_cons_of_mem _ (List.mem_cons_of_mem _ (List.mem_cons_of_mem _ (List.mem_cons_of_mem _ (List.mem_cons_of_mem _ (List.mem_cons_of_mem _ (List.mem_cons_of_mem _ (List.mem_cons_of_mem _ (List.mem_cons_of_mem _ (List.mem_cons_of_mem _ (List.mem_cons_of_mem _ (List.mem_cons_of_mem _ (List.mem_cons_of_mem _ (List.mem_cons_of_mem _ (List.mem_cons_of_mem _ (List.mem_cons_of_mem _ (List.mem_cons_of_mem _ (List.mem_cons_of_mem _ (List.mem_cons_of_mem _ (List.mem_cons_of_mem _ (List.mem_cons_of_mem _ (List.mem_cons_of_mem _ (List.mem_cons_of_mem _ (List.mem_cons_of_mem _ (List.mem_cons_of_mem _ (List.mem_cons_self))))))))))))))))))))))))))))))))
  have EN_77 := e2_entH (u := 2) (a := 83) (j := 37) (lo := 2147483648) (hi := 2147485249) hl0 rfl rfl (by decide) cg_b489_77.1 cg_b489_77.2 ci_b489_77 cj_b489_77 rfl (LG_74 _ (List.mem_cons_of_mem _ (List.mem_cons_of_mem _ (List.mem_cons_of_mem _ (List.mem_cons_of_mem _ (List.mem_cons_of_mem _ (List.mem_cons_of_mem _ (List.mem_cons_of_mem _ (List.mem_cons_of_mem _ (List.mem_cons_of_mem _ (List.mem_cons_of_mem _ (List.mem_cons_of_mem _ (List.mem_cons_of_mem _ (List.mem_cons_of_mem _ (List.mem_cons_of_mem _ (List.mem_cons_of_mem _ (List.mem_cons_of_mem _ (List.mem_cons_of_mem _ (List.mem_cons_of_mem _ (List.mem_cons_of_mem _ (List.mem_cons_of_mem _ (List.mem_cons_of_mem _ (List.mem_cons_of_mem _ (List.mem_cons_of_mem _ (List.mem_cons_of_mem _ (List.mem_cons_of_mem _ (List.mem_cons_of_mem _ (List.mem_cons_of_mem _ (List.mem_cons_of_mem _ (List.mem_cons_of_mem _ (List.mem_cons_of_mem _ (List.mem_cons_of_mem _ (List.mem_cons_self)))))))))))))))))))))))))))))))))
  have EN_78 := e2_entH (u := 2) (a := 83) (j := 37) (lo := 2147483648) (hi := 2147485249) hl0 rfl rfl (by decide) cg_b489_78.1 cg_b489_78.2 ci_b489_78 cj_b489_78 rfl (LG_74 _ (List.mem_cons_of_mem _ (List.mem_cons_of_mem _ (List.mem_cons_of_mem _ (List.mem_cons_of_mem _ (List.mem_cons_of_mem _ (List.mem_cons_of_mem _ (List.mem_cons_of_mem _ (List.mem_cons_of_mem _ (List.mem_cons_of_mem _ (List.mem_cons_of_mem _ (List.mem_cons_of_mem _ (List.mem_cons_of_mem _ (List.mem_cons_of_mem _ (List.mem_cons_of_mem _ (List.mem_cons_of_mem _ (List.mem_cons_of_mem _ (List.mem_cons_of_mem _ (List.mem_cons_of_mem _ (List.mem_cons_of_mem _ (List.mem_cons_of_mem _ (List.mem_cons_of_mem _ (List.mem_cons_of_mem _ (List.mem_cons_of_mem _ (List.mem_cons_of_mem _ (List.mem_cons_of_mem _ (List.mem_cons_of_mem _ (List.mem_cons_of_mem _ (List.mem_cons_of_mem _ (List.mem_cons_of_mem _ (List.mem_cons_of_mem _ (List.mem_cons_of_mem _ (List.mem_cons_of_mem _ (List.mem_cons_self))))))))))))))))))))))))))))))))))
  have EN_79 := e2_entH (u := 2) (a := 83) (j := 37) (lo := 2147483648) (hi := 2147485249) hl0 rfl rfl (by decide) cg_b489_79.1 cg_b489_79.2 ci_b489_79 cj_b489_79 rfl (LG_74 _ (List.mem_cons_of_mem _ (List.mem_cons_of_mem _ (List.mem_cons_of_mem _ (List.mem_cons_of_mem _ (List.mem_cons_of_mem _ (List.mem_cons_of_mem _ (List.mem_cons_of_mem _ (List.mem_cons_of_mem _ (List.mem_cons_of_mem _ (List.mem_cons_of_mem _ (List.mem_cons_of_mem _ (List.mem_cons_of_mem _ (List.mem_cons_of_mem _ (List.mem_cons_of_mem _ (List.mem_cons_of_mem _ (List.mem_cons_of_mem _ (List.mem_cons_of_mem _ (List.mem_cons_of_mem _ (List.mem_cons_of_mem _ (List.mem_cons_of_mem _ (List.mem_cons_of_mem _ (List.mem_cons_of_mem _ (List.mem_cons_of_mem _ (List.mem_cons_of_mem _ (List.mem_cons_of_mem _ (List.mem_cons_of_mem _ (List.mem_cons_of_mem _ (List.mem_cons_of_mem _ (List.mem_cons_of_mem _ (List.mem_cons_of_mem _ (List.mem_cons_of_mem _ (List.mem_cons_of_mem _ (List.mem_cons_of_mem _ (List.mem_cons_self)))))))))))))))))))))))))))))))))))
  have EN_80 := e2_entH (u := 2) (a := 83) (j := 37) (lo := 2147483648) (hi := 2147485249) hl0 rfl rfl (by decide) cg_b489_80.1 cg_b489_80.2 ci_b489_80 cj_b489_80 rfl (LG_74 _ (List.mem_cons_of_mem _ (List.mem_cons_of_mem _ (List.mem_cons_of_mem _ (List.mem_cons_of_mem _ (List.mem_cons_of_mem _ (List.mem_cons_of_mem _ (List.mem_cons_of_mem _ (List.mem_cons_of_mem _ (List.mem_cons_of_mem _ (List.mem_cons_of_mem _ (List.mem_cons_of_mem _ (List.mem_cons_of_mem _ (List.mem_cons_of_mem _ (List.mem_cons_of_mem _ (List.mem_cons_of_mem _ (List.mem_cons_of_mem _ (List.mem_cons_of_mem _ (List.mem_cons_of_mem _ (List.mem_cons_of_mem _ (List.mem_cons_of_mem _ (List.mem_cons_of_mem _ (List.mem_cons_of_mem _ (List.mem_cons_of_mem _ (List.mem_cons_of_mem _ (List.mem_cons_of_mem _ (List.mem_cons_of_mem _ (List.mem_cons_of_mem _ (List.mem_cons_of_mem _ (List.mem_cons_of_mem _ (List.mem_cons_of_mem _ (List.mem_cons_of_mem _ (List.mem_cons_of_mem _ (List.mem_cons_of_mem _ (List.mem_cons_of_mem _ (List.mem_cons_self))))))))))))))))))))))))))))))))))))
  have EN_81 := e2_entH (u := 2) (a := 83) (j := 37) (lo := 2147483648) (hi := 2147485249) hl0 rfl rfl (by decide) cg_b489_81.1 cg_b489_81.2 ci_b489_81 cj_b489_81 rfl (LG_74 _ (List.mem_cons_of_mem _ (List.mem_cons_of_mem _ (List.mem_cons_of_mem _ (List.mem_cons_of_mem _ (List.mem_cons_of_mem _ (List.mem_cons_of_mem _ (List.mem_cons_of_mem _ (List.mem_cons_of_mem _ (List.mem_cons_of_mem _ (List.mem_cons_of_mem _ (List.mem_cons_of_mem _ (List.mem_cons_of_mem _ (List.mem_cons_of_mem _ (List.mem_cons_of_mem _ (List.mem_cons_of_mem _ (List.mem_cons_of_mem _ (List.mem_cons_of_mem _ (List.mem_cons_of_mem _ (List.mem_cons_of_mem _ (List.mem_cons_of_mem _ (List.mem_cons_of_mem _ (List.mem_cons_of_mem _ (List.mem_cons_of_mem _ (List.mem_cons_of_mem _ (List.mem_cons_of_mem _ (List.mem_cons_of_mem _ (List.mem_cons_of_mem _ (List.mem_cons_of_mem _ (List.mem_cons_of_mem _ (List.mem_cons_of_mem _ (List.mem_cons_of_mem _ (List.mem_cons_of_mem _ (List.mem_cons_of_mem _ (List.mem_cons_of_mem _ (List.mem_cons_of_mem _ (List.mem_cons_self)))))))))))))))))))))))))))))))))))))
  have L_0 : e2_gdM M p l e R s m args below meth c Q D cA A ads r0 20 al_b489_0 [] E_b489_0 h_b489_0 := by
    refine e2_indL (u := 2) (j := 1) (lo := 2147483648) (hi := 2147485248) (b := 2) (dd := 0) hl0 (by decide) rfl rfl (Or.inr ⟨rfl, rfl⟩) rfl ci_b489_0 cj_b489_0 ?_
    intro r_0 k_0 hk_0 hp_0 hs_0 hn_0
    have hl_0 : r_0.length ≤ 3 := hs_0.len rfl
    have ha_0 := ha.ext hp_0
    exact e2_fromM hen ha_0 hcall (e2_cutA_ok (e2_fa (fun al st E h hc => hn_0 al st E h hc) (e2_fa (fun al st E h hc => (EN_1 al st E h hc).ext hp_0) (e2_fa (fun al st E h hc => (EN_19 al st E h hc).ext hp_0) (e2_fa (fun al st E h hc => (EN_37 al st E h hc).ext hp_0) (e2_fa (fun al st E h hc => (EN_55 al st E h hc).ext hp_0) (e2_fa (fun al st E h hc => (EN_73 al st E h hc).ext hp_0) e2_fz))))))) (hC []) (X := e2x_185) ex2_185 20 ck_b489_0
  have EN_0 := e2_entL (u := 2) (j := 1) (lo := 2147483648) (hi := 2147485248) hl0 rfl rfl rfl ci_b489_0 cj_b489_0 L_0
  exact e2_from hen ha hcall (e2_cutA_ok (e2_fa (fun al st E h hc => EN_0 al st E h hc) e2_fz)) (hC []) (X := e2x_185) ex2_185 0 ck_b489_e
