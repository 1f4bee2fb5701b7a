/-! CONTRACTS b, printed by a program -/
/-! b195 X10_readGlyph -/
def as_b195 : List ev_V := [(2, 83, 0)]
def E_b195 : e2_E := [(2147483648, 2147583648, 0, 0), (2147483648, 2147483656, 1, 0), (2147483648, 2147485249, 2, 0)]
noncomputable def f_b195 : ev_H := (bn1153 : e2_Q8)
def bn1199 : e2_Q8 := (bn1172, bn885)
noncomputable def q_b195_0 : ev_H := (bn1199 : e2_Q8)
def bn1200 : e2_Q8 := (bn1172, bn888)
noncomputable def q_b195_1 : ev_H := (bn1200 : e2_Q8)
def bn1201 : e2_Q8 := (bn1172, bn891)
noncomputable def q_b195_2 : ev_H := (bn1201 : e2_Q8)
def bn1202 : e2_Q8 := (bn1172, bn894)
noncomputable def q_b195_3 : ev_H := (bn1202 : e2_Q8)
def bn1203 : e2_Q8 := (bn1172, bn882)
noncomputable def q_b195_4 : ev_H := (bn1203 : e2_Q8)
noncomputable def rs_b195 : e2_Rs := [((9, 0, 0), q_b195_0), ((9, 0, 0), q_b195_1), ((9, 0, 0), q_b195_2), ((9, 0, 0), q_b195_3), ((9, 0, 0), q_b195_4)]
noncomputable def s_b195 : e2_Sm := (196, as_b195, E_b195, f_b195, rs_b195)
noncomputable def S_b195 : List e2_Sm := [s_b55, s_b80, s_b81, s_b93, s_b94, s_b95, s_b96, s_b97, s_b100, s_b103, s_b104, s_b105, s_b106, s_b131, s_b132, s_b133, s_b134, s_b188]
noncomputable def I_b195 : List e2_In := [(179, 3, e2x_179)]
set_option maxRecDepth 1000000 in
theorem ck_b195 : e2_run (e2_cal S_b195 I_b195 4000 1) (e2_fin rs_b195) e2x_196 (fun _ => false) (fun _ _ _ _ _ => false) 4000 (e2_seek e2x_196 0) (e2_al 2 as_b195) [] E_b195 f_b195 = true := by decide +kernel
set_option maxRecDepth 1000000 in
theorem co_b195 : e2_okSB E_b195.length as_b195 f_b195 rs_b195 = true := by decide +kernel
theorem cs_b195 (hen : en_ok) (l : Launch) (hh : e2_hand_b l) : e2_smOk l 62 s_b195 := e2_con0 (H := 60) (n := 1) (C := evd_196) (S := S_b195) (I := I_b195) (fuel := 4000) [] hen ei_196 (e2_fa (hh _ hm_b55) (e2_fa ((cs_b80 hen l).mono (by decide)) (e2_fa ((cs_b81 hen l).mono (by decide)) (e2_fa ((cs_b93 hen l).mono (by decide)) (e2_fa ((cs_b94 hen l).mono (by decide)) (e2_fa ((cs_b95 hen l).mono (by decide)) (e2_fa ((cs_b96 hen l).mono (by decide)) (e2_fa ((cs_b97 hen l).mono (by decide)) (e2_fa ((cs_b100 hen l).mono (by decide)) (e2_fa ((cs_b103 hen l).mono (by decide)) (e2_fa ((cs_b104 hen l).mono (by decide)) (e2_fa ((cs_b105 hen l).mono (by decide)) (e2_fa ((cs_b106 hen l).mono (by decide)) (e2_fa ((cs_b131 hen l).mono (by decide)) (e2_fa ((cs_b132 hen l).mono (by decide)) (e2_fa ((cs_b133 hen l).mono (by decide)) (e2_fa ((cs_b134 hen l).mono (by decide)) (e2_fa ((cs_b188 hen l).mono (by decide)) e2_fz)))))))))))))))))) (e2_fa ein_179 e2_fz) (by decide) co_b195 ex2_196 ck_b195
/-! b196 X10_readGlyph -/
def as_b196 : List ev_V := [(2, 83, 0)]
def E_b196 : e2_E := [(2147483648, 2147583648, 0, 0), (2147483648, 2147483656, 1, 0), (2147483648, 2147485249, 2, 0)]
def bn1204 : e2_Q8 := (bn1122, bn898)
noncomputable def f_b196 : ev_H := (bn1204 : e2_Q8)
noncomputable def q_b196_0 : ev_H := (bn1199 : e2_Q8)
noncomputable def q_b196_1 : ev_H := (bn1200 : e2_Q8)
noncomputable def q_b196_2 : ev_H := (bn1201 : e2_Q8)
noncomputable def q_b196_3 : ev_H := (bn1202 : e2_Q8)
noncomputable def q_b196_4 : ev_H := (bn1203 : e2_Q8)
noncomputable def rs_b196 : e2_Rs := [((9, 0, 0), q_b196_0), ((9, 0, 0), q_b196_1), ((9, 0, 0), q_b196_2), ((9, 0, 0), q_b196_3), ((9, 0, 0), q_b196_4)]
noncomputable def s_b196 : e2_Sm := (196, as_b196, E_b196, f_b196, rs_b196)
noncomputable def S_b196 : List e2_Sm := [s_b56, s_b57, s_b58, s_b80, s_b81, s_b93, s_b94, s_b95, s_b96, s_b97, s_b103, s_b104, s_b105, s_b106, s_b116, s_b131, s_b132, s_b133, s_b134, s_b190]
noncomputable def I_b196 : List e2_In := [(179, 3, e2x_179)]
set_option maxRecDepth 1000000 in
theorem ck_b196 : e2_run (e2_cal S_b196 I_b196 4000 1) (e2_fin rs_b196) e2x_196 (fun _ => false) (fun _ _ _ _ _ => false) 4000 (e2_seek e2x_196 0) (e2_al 2 as_b196) [] E_b196 f_b196 = true := by decide +kernel
set_option maxRecDepth 1000000 in
theorem co_b196 : e2_okSB E_b196.length as_b196 f_b196 rs_b196 = true := by decide +kernel
theorem cs_b196 (hen : en_ok) (l : Launch) (hh : e2_hand_b l) : e2_smOk l 62 s_b196 := e2_con0 (H := 60) (n := 1) (C := evd_196) (S := S_b196) (I := I_b196) (fuel := 4000) [] hen ei_196 (e2_fa (hh _ hm_b56) (e2_fa (hh _ hm_b57) (e2_fa (hh _ hm_b58) (e2_fa ((cs_b80 hen l).mono (by decide)) (e2_fa ((cs_b81 hen l).mono (by decide)) (e2_fa ((cs_b93 hen l).mono (by decide)) (e2_fa ((cs_b94 hen l).mono (by decide)) (e2_fa ((cs_b95 hen l).mono (by decide)) (e2_fa ((cs_b96 hen l).mono (by decide)) (e2_fa ((cs_b97 hen l).mono (by decide)) (e2_fa ((cs_b103 hen l).mono (by decide)) (e2_fa ((cs_b104 hen l).mono (by decide)) (e2_fa ((cs_b105 hen l).mono (by decide)) (e2_fa ((cs_b106 hen l).mono (by decide)) (e2_fa ((cs_b116 hen l).mono (by decide)) (e2_fa ((cs_b131 hen l).mono (by decide)) (e2_fa ((cs_b132 hen l).mono (by decide)) (e2_fa ((cs_b133 hen l).mono (by decide)) (e2_fa ((cs_b134 hen l).mono (by decide)) (e2_fa ((cs_b190 hen l).mono (by decide)) e2_fz)))))))))))))))))))) (e2_fa ein_179 e2_fz) (by decide) co_b196 ex2_196 ck_b196
/-! b197 X10_readLine -/
def as_b197 : List ev_V := [(2, 83, 0)]
def E_b197 : e2_E := [(2147483648, 2147583648, 0, 0), (2147483648, 2147483656, 1, 0), (2147483648, 2147485249, 2, 0)]
def bn1205 : e2_Q8 := (bn1156, bn901)
noncomputable def f_b197 : ev_H := (bn1205 : e2_Q8)
noncomputable def q_b197_0 : ev_H := (bn1158 : e2_Q8)
noncomputable def q_b197_1 : ev_H := (bn1157 : e2_Q8)
noncomputable def q_b197_2 : ev_H := (bn1159 : e2_Q8)
noncomputable def q_b197_3 : ev_H := (bn1160 : e2_Q8)
noncomputable def q_b197_4 : ev_H := (bn1161 : e2_Q8)
def bn1206 : e2_Q7 := (bn1192, bn828)
def bn1207 : e2_Q8 := (bn1206, bn837)
noncomputable def q_b197_5 : ev_H := (bn1207 : e2_Q8)
def bn1208 : e2_Q8 := (bn1206, bn833)
noncomputable def q_b197_6 : ev_H := (bn1208 : e2_Q8)
def bn1209 : e2_Q8 := (bn1206, bn841)
noncomputable def q_b197_7 : ev_H := (bn1209 : e2_Q8)
def bn1210 : e2_Q8 := (bn1206, bn845)
noncomputable def q_b197_8 : ev_H := (bn1210 : e2_Q8)
def bn1211 : e2_Q8 := (bn1206, bn904)
noncomputable def q_b197_9 : ev_H := (bn1211 : e2_Q8)
noncomputable def rs_b197 : e2_Rs := [((9, 0, 0), q_b197_0), ((9, 0, 0), q_b197_1), ((9, 0, 0), q_b197_2), ((9, 0, 0), q_b197_3), ((9, 0, 0), q_b197_4), ((9, 0, 0), q_b197_5), ((9, 0, 0), q_b197_6), ((9, 0, 0), q_b197_7), ((9, 0, 0), q_b197_8), ((9, 0, 0), q_b197_9)]
noncomputable def s_b197 : e2_Sm := (187, as_b197, E_b197, f_b197, rs_b197)
noncomputable def S_b197 : List e2_Sm := [s_b74, s_b76, s_b77, s_b78, s_b79, s_b80, s_b81, s_b82, s_b83, s_b84, s_b85, s_b86, s_b98, s_b99, s_b124, s_b125, s_b126, s_b129, s_b192, s_b193, s_b195, s_b196]
noncomputable def I_b197 : List e2_In := [(170, 2, e2x_170), (173, 3, e2x_173), (174, 1, e2x_174), (178, 2, e2x_178), (179, 3, e2x_179), (180, 1, e2x_180), (186, 1, e2x_186)]
set_option maxRecDepth 1000000 in
theorem ck_b197 : e2_run (e2_cal S_b197 I_b197 4000 2) (e2_fin rs_b197) e2x_187 (fun _ => false) (fun _ _ _ _ _ => false) 4000 (e2_seek e2x_187 0) (e2_al 3 as_b197) [] E_b197 f_b197 = true := by decide +kernel
set_option maxRecDepth 1000000 in
theorem co_b197 : e2_okSB E_b197.length as_b197 f_b197 rs_b197 = true := by decide +kernel
theorem cs_b197 (hen : en_ok) (l : Launch) (hh : e2_hand_b l) : e2_smOk l 65 s_b197 := e2_con0 (H := 62) (n := 2) (C := evd_187) (S := S_b197) (I := I_b197) (fuel := 4000) [] hen ei_187 (e2_fa ((cs_b74 hen l).mono (by decide)) (e2_fa ((cs_b76 hen l).mono (by decide)) (e2_fa ((cs_b77 hen l).mono (by decide)) (e2_fa ((cs_b78 hen l).mono (by decide)) (e2_fa ((cs_b79 hen l).mono (by decide)) (e2_fa ((cs_b80 hen l).mono (by decide)) (e2_fa ((cs_b81 hen l).mono (by decide)) (e2_fa ((cs_b82 hen l).mono (by decide)) (e2_fa ((cs_b83 hen l).mono (by decide)) (e2_fa ((cs_b84 hen l).mono (by decide)) (e2_fa ((cs_b85 hen l).mono (by decide)) (e2_fa ((cs_b86 hen l).mono (by decide)) (e2_fa ((cs_b98 hen l).mono (by decide)) (e2_fa ((cs_b99 hen l).mono (by decide)) (e2_fa ((cs_b124 hen l hh).mono (by decide)) (e2_fa ((cs_b125 hen l hh).mono (by decide)) (e2_fa ((cs_b126 hen l).mono (by decide)) (e2_fa ((cs_b129 hen l).mono (by decide)) (e2_fa ((cs_b192 hen l).mono (by decide)) (e2_fa ((cs_b193 hen l).mono (by decide)) (e2_fa (cs_b195 hen l hh) (e2_fa (cs_b196 hen l hh) e2_fz)))))))))))))))))))))) (e2_fa ein_170 (e2_fa ein_173 (e2_fa ein_174 (e2_fa ein_178 (e2_fa ein_179 (e2_fa ein_180 (e2_fa ein_186 e2_fz))))))) (by decide) co_b197 ex2_187 ck_b197
/-! b198 X10_glyphHere -/
def as_b198 : List ev_V := [(2, 83, 0)]
def E_b198 : e2_E := [(2147483648, 2147583648, 0, 0), (2147483648, 2147483656, 1, 0), (2147483648, 2147485249, 2, 0)]
def bn1212 : e2_Q5 := (bn14, bn1169)
def bn1213 : e2_Q6 := (bn1212, bn334)
def bn1214 : e2_Q7 := (bn1213, bn273)
def bn1215 : e2_Q8 := (bn1214, bn573)
noncomputable def f_b198 : ev_H := (bn1215 : e2_Q8)
noncomputable def q_b198_0 : ev_H := (bn1215 : e2_Q8)
noncomputable def rs_b198 : e2_Rs := [((0, 4294967295, 0), q_b198_0)]
noncomputable def s_b198 : e2_Sm := (190, as_b198, E_b198, f_b198, rs_b198)
noncomputable def S_b198 : List e2_Sm := [s_b101]
noncomputable def I_b198 : List e2_In := []
set_option maxRecDepth 1000000 in
theorem ck_b198 : e2_run (e2_cal S_b198 I_b198 4000 0) (e2_fin rs_b198) e2x_190 (fun _ => false) (fun _ _ _ _ _ => false) 4000 (e2_seek e2x_190 0) (e2_al 1 as_b198) [] E_b198 f_b198 = true := by decide +kernel
set_option maxRecDepth 1000000 in
theorem co_b198 : e2_okSB E_b198.length as_b198 f_b198 rs_b198 = true := by decide +kernel
theorem cs_b198 (hen : en_ok) (l : Launch) : e2_smOk l 2 s_b198 := e2_con0 (H := 1) (n := 0) (C := evd_190) (S := S_b198) (I := I_b198) (fuel := 4000) [] hen ei_190 (e2_fa (cs_b101 hen l) e2_fz) e2_fz (by decide) co_b198 ex2_190 ck_b198
/-! b199 X10_readGlyph -/
def as_b199 : List ev_V := [(2, 83, 0)]
def E_b199 : e2_E := [(2147483648, 2147583648, 0, 0), (2147483648, 2147483656, 1, 0), (2147483648, 2147485249, 2, 0)]
noncomputable def f_b199 : ev_H := (bn1177 : e2_Q8)
def bc191 : ev_C := (50, [(1, 1, 4294967296), (0, 8, 0)])
def bn1216 : e2_Q1 := (bc191, bc3)
def bn1217 : e2_Q2 := (bn22, bn1216)
def bn1218 : e2_Q3 := (bn1217, bn27)
def bn1219 : e2_Q4 := (bn21, bn1218)
def bn1220 : e2_Q5 := (bn257, bn1219)
def bn1221 : e2_Q6 := (bn1220, bn266)
def bn1222 : e2_Q7 := (bn1221, bn687)
def bn1223 : e2_Q8 := (bn1222, bn708)
noncomputable def q_b199_0 : ev_H := (bn1223 : e2_Q8)
def bn1224 : e2_Q8 := (bn1222, bn713)
noncomputable def q_b199_1 : ev_H := (bn1224 : e2_Q8)
def bn1225 : e2_Q8 := (bn1222, bn718)
noncomputable def q_b199_2 : ev_H := (bn1225 : e2_Q8)
def bn1226 : e2_Q8 := (bn1222, bn723)
noncomputable def q_b199_3 : ev_H := (bn1226 : e2_Q8)
def bn1227 : e2_Q8 := (bn1222, bn696)
noncomputable def q_b199_4 : ev_H := (bn1227 : e2_Q8)
noncomputable def rs_b199 : e2_Rs := [((9, 0, 0), q_b199_0), ((9, 0, 0), q_b199_1), ((9, 0, 0), q_b199_2), ((9, 0, 0), q_b199_3), ((9, 0, 0), q_b199_4)]
noncomputable def s_b199 : e2_Sm := (196, as_b199, E_b199, f_b199, rs_b199)
noncomputable def S_b199 : List e2_Sm := [s_b59, s_b80, s_b81, s_b93, s_b94, s_b95, s_b96, s_b97, s_b100, s_b103, s_b104, s_b105, s_b106, s_b108, s_b110, s_b112, s_b114, s_b198]
noncomputable def I_b199 : List e2_In := [(179, 3, e2x_179)]
set_option maxRecDepth 1000000 in
theorem ck_b199 : e2_run (e2_cal S_b199 I_b199 4000 1) (e2_fin rs_b199) e2x_196 (fun _ => false) (fun _ _ _ _ _ => false) 4000 (e2_seek e2x_196 0) (e2_al 2 as_b199) [] E_b199 f_b199 = true := by decide +kernel
set_option maxRecDepth 1000000 in
theorem co_b199 : e2_okSB E_b199.length as_b199 f_b199 rs_b199 = true := by decide +kernel
theorem cs_b199 (hen : en_ok) (l : Launch) (hh : e2_hand_b l) : e2_smOk l 62 s_b199 := e2_con0 (H := 60) (n := 1) (C := evd_196) (S := S_b199) (I := I_b199) (fuel := 4000) [] hen ei_196 (e2_fa (hh _ hm_b59) (e2_fa ((cs_b80 hen l).mono (by decide)) (e2_fa ((cs_b81 hen l).mono (by decide)) (e2_fa ((cs_b93 hen l).mono (by decide)) (e2_fa ((cs_b94 hen l).mono (by decide)) (e2_fa ((cs_b95 hen l).mono (by decide)) (e2_fa ((cs_b96 hen l).mono (by decide)) (e2_fa ((cs_b97 hen l).mono (by decide)) (e2_fa ((cs_b100 hen l).mono (by decide)) (e2_fa ((cs_b103 hen l).mono (by decide)) (e2_fa ((cs_b104 hen l).mono (by decide)) (e2_fa ((cs_b105 hen l).mono (by decide)) (e2_fa ((cs_b106 hen l).mono (by decide)) (e2_fa ((cs_b108 hen l).mono (by decide)) (e2_fa ((cs_b110 hen l).mono (by decide)) (e2_fa ((cs_b112 hen l).mono (by decide)) (e2_fa ((cs_b114 hen l).mono (by decide)) (e2_fa ((cs_b198 hen l).mono (by decide)) e2_fz)))))))))))))))))) (e2_fa ein_179 e2_fz) (by decide) co_b199 ex2_196 ck_b199
/-! b200 X10_glyphHere -/
def as_b200 : List ev_V := [(2, 83, 0)]
def E_b200 : e2_E := [(2147483648, 2147583648, 0, 0), (2147483648, 2147483656, 1, 0), (2147483648, 2147485249, 2, 0)]
def bn1228 : e2_Q7 := (bn1213, bn727)
def bn1229 : e2_Q8 := (bn1228, bn729)
noncomputable def f_b200 : ev_H := (bn1229 : e2_Q8)
noncomputable def q_b200_0 : ev_H := (bn1229 : e2_Q8)
noncomputable def rs_b200 : e2_Rs := [((11, 2147483647, 2147483655), q_b200_0)]
noncomputable def s_b200 : e2_Sm := (190, as_b200, E_b200, f_b200, rs_b200)
noncomputable def S_b200 : List e2_Sm := [s_b117]
noncomputable def I_b200 : List e2_In := []
set_option maxRecDepth 1000000 in
theorem ck_b200 : e2_run (e2_cal S_b200 I_b200 4000 0) (e2_fin rs_b200) e2x_190 (fun _ => false) (fun _ _ _ _ _ => false) 4000 (e2_seek e2x_190 0) (e2_al 1 as_b200) [] E_b200 f_b200 = true := by decide +kernel
set_option maxRecDepth 1000000 in
theorem co_b200 : e2_okSB E_b200.length as_b200 f_b200 rs_b200 = true := by decide +kernel
theorem cs_b200 (hen : en_ok) (l : Launch) : e2_smOk l 2 s_b200 := e2_con0 (H := 1) (n := 0) (C := evd_190) (S := S_b200) (I := I_b200) (fuel := 4000) [] hen ei_190 (e2_fa (cs_b117 hen l) e2_fz) e2_fz (by decide) co_b200 ex2_190 ck_b200
/-! b201 X10_readGlyph -/
def as_b201 : List ev_V := [(2, 83, 0)]
def E_b201 : e2_E := [(2147483648, 2147583648, 0, 0), (2147483648, 2147483656, 1, 0), (2147483648, 2147485249, 2, 0)]
def bn1230 : e2_Q8 := (bn1172, bn736)
noncomputable def f_b201 : ev_H := (bn1230 : e2_Q8)
noncomputable def q_b201_0 : ev_H := (bn1223 : e2_Q8)
noncomputable def q_b201_1 : ev_H := (bn1224 : e2_Q8)
noncomputable def q_b201_2 : ev_H := (bn1225 : e2_Q8)
noncomputable def q_b201_3 : ev_H := (bn1226 : e2_Q8)
noncomputable def q_b201_4 : ev_H := (bn1227 : e2_Q8)
noncomputable def rs_b201 : e2_Rs := [((9, 0, 0), q_b201_0), ((9, 0, 0), q_b201_1), ((9, 0, 0), q_b201_2), ((9, 0, 0), q_b201_3), ((9, 0, 0), q_b201_4)]
noncomputable def s_b201 : e2_Sm := (196, as_b201, E_b201, f_b201, rs_b201)
noncomputable def S_b201 : List e2_Sm := [s_b60, s_b61, s_b62, s_b80, s_b81, s_b93, s_b94, s_b95, s_b96, s_b97, s_b103, s_b104, s_b105, s_b106, s_b108, s_b110, s_b112, s_b114, s_b116, s_b200]
noncomputable def I_b201 : List e2_In := [(179, 3, e2x_179)]
set_option maxRecDepth 1000000 in
theorem ck_b201 : e2_run (e2_cal S_b201 I_b201 4000 1) (e2_fin rs_b201) e2x_196 (fun _ => false) (fun _ _ _ _ _ => false) 4000 (e2_seek e2x_196 0) (e2_al 2 as_b201) [] E_b201 f_b201 = true := by decide +kernel
set_option maxRecDepth 1000000 in
theorem co_b201 : e2_okSB E_b201.length as_b201 f_b201 rs_b201 = true := by decide +kernel
theorem cs_b201 (hen : en_ok) (l : Launch) (hh : e2_hand_b l) : e2_smOk l 62 s_b201 := e2_con0 (H := 60) (n := 1) (C := evd_196) (S := S_b201) (I := I_b201) (fuel := 4000) [] hen ei_196 (e2_fa (hh _ hm_b60) (e2_fa (hh _ hm_b61) (e2_fa (hh _ hm_b62) (e2_fa ((cs_b80 hen l).mono (by decide)) (e2_fa ((cs_b81 hen l).mono (by decide)) (e2_fa ((cs_b93 hen l).mono (by decide)) (e2_fa ((cs_b94 hen l).mono (by decide)) (e2_fa ((cs_b95 hen l).mono (by decide)) (e2_fa ((cs_b96 hen l).mono (by decide)) (e2_fa ((cs_b97 hen l).mono (by decide)) (e2_fa ((cs_b103 hen l).mono (by decide)) (e2_fa ((cs_b104 hen l).mono (by decide)) (e2_fa ((cs_b105 hen l).mono (by decide)) (e2_fa ((cs_b106 hen l).mono (by decide)) (e2_fa ((cs_b108 hen l).mono (by decide)) (e2_fa ((cs_b110 hen l).mono (by decide)) (e2_fa ((cs_b112 hen l).mono (by decide)) (e2_fa ((cs_b114 hen l).mono (by decide)) (e2_fa ((cs_b116 hen l).mono (by decide)) (e2_fa ((cs_b200 hen l).mono (by decide)) e2_fz)))))))))))))))))))) (e2_fa ein_179 e2_fz) (by decide) co_b201 ex2_196 ck_b201
/-! b202 X10_readNever -/
def as_b202 : List ev_V := [(2, 83, 0)]
def E_b202 : e2_E := [(2147483648, 2147583648, 0, 0), (2147483648, 2147483656, 1, 0), (2147483648, 2147485249, 2, 0)]
noncomputable def f_b202 : ev_H := (bn1215 : e2_Q8)
def bn1231 : e2_Q8 := (bn1214, bn555)
noncomputable def q_b202_0 : ev_H := (bn1231 : e2_Q8)
noncomputable def rs_b202 : e2_Rs := [((9, 0, 0), q_b202_0)]
noncomputable def s_b202 : e2_Sm := (197, as_b202, E_b202, f_b202, rs_b202)
noncomputable def S_b202 : List e2_Sm := [s_b103, s_b198]
noncomputable def I_b202 : List e2_In := [(174, 1, e2x_174)]
set_option maxRecDepth 1000000 in
theorem ck_b202 : e2_run (e2_cal S_b202 I_b202 4000 1) (e2_fin rs_b202) e2x_197 (fun _ => false) (fun _ _ _ _ _ => false) 4000 (e2_seek e2x_197 0) (e2_al 3 as_b202) [] E_b202 f_b202 = true := by decide +kernel
set_option maxRecDepth 1000000 in
theorem co_b202 : e2_okSB E_b202.length as_b202 f_b202 rs_b202 = true := by decide +kernel
theorem cs_b202 (hen : en_ok) (l : Launch) : e2_smOk l 5 s_b202 := e2_con0 (H := 3) (n := 1) (C := evd_197) (S := S_b202) (I := I_b202) (fuel := 4000) [] hen ei_197 (e2_fa (cs_b103 hen l) (e2_fa ((cs_b198 hen l).mono (by decide)) e2_fz)) (e2_fa ein_174 e2_fz) (by decide) co_b202 ex2_197 ck_b202
/-! b203 X10_readNever -/
def as_b203 : List ev_V := [(2, 83, 0)]
def E_b203 : e2_E := [(2147483648, 2147583648, 0, 0), (2147483648, 2147483656, 1, 0), (2147483648, 2147485249, 2, 0)]
def bn1232 : e2_Q6 := (bn1212, bn739)
def bn1233 : e2_Q7 := (bn1232, bn727)
def bn1234 : e2_Q8 := (bn1233, bn743)
noncomputable def f_b203 : ev_H := (bn1234 : e2_Q8)
def bn1235 : e2_Q8 := (bn1233, bn745)
noncomputable def q_b203_0 : ev_H := (bn1235 : e2_Q8)
def bn1236 : e2_Q8 := (bn1233, bn747)
noncomputable def q_b203_1 : ev_H := (bn1236 : e2_Q8)
def bn1237 : e2_Q8 := (bn1233, bn749)
noncomputable def q_b203_2 : ev_H := (bn1237 : e2_Q8)
def bn1238 : e2_Q8 := (bn1233, bn751)
noncomputable def q_b203_3 : ev_H := (bn1238 : e2_Q8)
noncomputable def rs_b203 : e2_Rs := [((9, 0, 0), q_b203_0), ((9, 0, 0), q_b203_1), ((9, 0, 0), q_b203_2), ((9, 0, 0), q_b203_3)]
noncomputable def s_b203 : e2_Sm := (197, as_b203, E_b203, f_b203, rs_b203)
noncomputable def S_b203 : List e2_Sm := [s_b103, s_b121, s_b122, s_b198, s_b200]
noncomputable def I_b203 : List e2_In := [(173, 3, e2x_173), (174, 1, e2x_174)]
set_option maxRecDepth 1000000 in
theorem ck_b203 : e2_run (e2_cal S_b203 I_b203 4000 1) (e2_fin rs_b203) e2x_197 (fun _ => false) (fun _ _ _ _ _ => false) 4000 (e2_seek e2x_197 0) (e2_al 3 as_b203) [] E_b203 f_b203 = true := by decide +kernel
set_option maxRecDepth 1000000 in
theorem co_b203 : e2_okSB E_b203.length as_b203 f_b203 rs_b203 = true := by decide +kernel
theorem cs_b203 (hen : en_ok) (l : Launch) : e2_smOk l 8 s_b203 := e2_con0 (H := 6) (n := 1) (C := evd_197) (S := S_b203) (I := I_b203) (fuel := 4000) [] hen ei_197 (e2_fa ((cs_b103 hen l).mono (by decide)) (e2_fa (cs_b121 hen l) (e2_fa ((cs_b122 hen l).mono (by decide)) (e2_fa ((cs_b198 hen l).mono (by decide)) (e2_fa ((cs_b200 hen l).mono (by decide)) e2_fz))))) (e2_fa ein_173 (e2_fa ein_174 e2_fz)) (by decide) co_b203 ex2_197 ck_b203
/-! b204 X10_readLine -/
def as_b204 : List ev_V := [(2, 83, 0)]
def E_b204 : e2_E := [(2147483648, 2147583648, 0, 0), (2147483648, 2147483656, 1, 0), (2147483648, 2147485249, 2, 0)]
def bn1239 : e2_Q8 := (bn1193, bn824)
noncomputable def f_b204 : ev_H := (bn1239 : e2_Q8)
noncomputable def q_b204_0 : ev_H := (bn1208 : e2_Q8)
noncomputable def q_b204_1 : ev_H := (bn1207 : e2_Q8)
noncomputable def q_b204_2 : ev_H := (bn1209 : e2_Q8)
noncomputable def q_b204_3 : ev_H := (bn1210 : e2_Q8)
noncomputable def q_b204_4 : ev_H := (bn1198 : e2_Q8)
def bn1240 : e2_Q4 := (bn350, bn1218)
def bn1241 : e2_Q5 := (bn257, bn1240)
def bn1242 : e2_Q6 := (bn1241, bn805)
def bn1243 : e2_Q7 := (bn1242, bn812)
def bn1244 : e2_Q8 := (bn1243, bn856)
noncomputable def q_b204_5 : ev_H := (bn1244 : e2_Q8)
def bn1245 : e2_Q8 := (bn1243, bn859)
noncomputable def q_b204_6 : ev_H := (bn1245 : e2_Q8)
def bn1246 : e2_Q8 := (bn1243, bn862)
noncomputable def q_b204_7 : ev_H := (bn1246 : e2_Q8)
def bn1247 : e2_Q8 := (bn1243, bn865)
noncomputable def q_b204_8 : ev_H := (bn1247 : e2_Q8)
def bn1248 : e2_Q8 := (bn1243, bn849)
noncomputable def q_b204_9 : ev_H := (bn1248 : e2_Q8)
noncomputable def rs_b204 : e2_Rs := [((9, 0, 0), q_b204_0), ((9, 0, 0), q_b204_1), ((9, 0, 0), q_b204_2), ((9, 0, 0), q_b204_3), ((9, 0, 0), q_b204_4), ((9, 0, 0), q_b204_5), ((9, 0, 0), q_b204_6), ((9, 0, 0), q_b204_7), ((9, 0, 0), q_b204_8), ((9, 0, 0), q_b204_9)]
noncomputable def s_b204 : e2_Sm := (187, as_b204, E_b204, f_b204, rs_b204)
noncomputable def S_b204 : List e2_Sm := [s_b74, s_b76, s_b77, s_b78, s_b79, s_b80, s_b81, s_b82, s_b83, s_b84, s_b85, s_b86, s_b98, s_b99, s_b124, s_b125, s_b126, s_b129, s_b199, s_b201, s_b202, s_b203]
noncomputable def I_b204 : List e2_In := [(170, 2, e2x_170), (173, 3, e2x_173), (174, 1, e2x_174), (178, 2, e2x_178), (179, 3, e2x_179), (180, 1, e2x_180), (186, 1, e2x_186)]
set_option maxRecDepth 1000000 in
theorem ck_b204 : e2_run (e2_cal S_b204 I_b204 4000 2) (e2_fin rs_b204) e2x_187 (fun _ => false) (fun _ _ _ _ _ => false) 4000 (e2_seek e2x_187 0) (e2_al 3 as_b204) [] E_b204 f_b204 = true := by decide +kernel
set_option maxRecDepth 1000000 in
theorem co_b204 : e2_okSB E_b204.length as_b204 f_b204 rs_b204 = true := by decide +kernel
theorem cs_b204 (hen : en_ok) (l : Launch) (hh : e2_hand_b l) : e2_smOk l 65 s_b204 := e2_con0 (H := 62) (n := 2) (C := evd_187) (S := S_b204) (I := I_b204) (fuel := 4000) [] hen ei_187 (e2_fa ((cs_b74 hen l).mono (by decide)) (e2_fa ((cs_b76 hen l).mono (by decide)) (e2_fa ((cs_b77 hen l).mono (by decide)) (e2_fa ((cs_b78 hen l).mono (by decide)) (e2_fa ((cs_b79 hen l).mono (by decide)) (e2_fa ((cs_b80 hen l).mono (by decide)) (e2_fa ((cs_b81 hen l).mono (by decide)) (e2_fa ((cs_b82 hen l).mono (by decide)) (e2_fa ((cs_b83 hen l).mono (by decide)) (e2_fa ((cs_b84 hen l).mono (by decide)) (e2_fa ((cs_b85 hen l).mono (by decide)) (e2_fa ((cs_b86 hen l).mono (by decide)) (e2_fa ((cs_b98 hen l).mono (by decide)) (e2_fa ((cs_b99 hen l).mono (by decide)) (e2_fa ((cs_b124 hen l hh).mono (by decide)) (e2_fa ((cs_b125 hen l hh).mono (by decide)) (e2_fa ((cs_b126 hen l).mono (by decide)) (e2_fa ((cs_b129 hen l).mono (by decide)) (e2_fa (cs_b199 hen l hh) (e2_fa (cs_b201 hen l hh) (e2_fa ((cs_b202 hen l).mono (by decide)) (e2_fa ((cs_b203 hen l).mono (by decide)) e2_fz)))))))))))))))))))))) (e2_fa ein_170 (e2_fa ein_173 (e2_fa ein_174 (e2_fa ein_178 (e2_fa ein_179 (e2_fa ein_180 (e2_fa ein_186 e2_fz))))))) (by decide) co_b204 ex2_187 ck_b204
/-! b205 X10_readGlyph -/
def as_b205 : List ev_V := [(2, 83, 0)]
def E_b205 : e2_E := [(2147483648, 2147583648, 0, 0), (2147483648, 2147483656, 1, 0), (2147483648, 2147485249, 2, 0)]
noncomputable def f_b205 : ev_H := (bn1203 : e2_Q8)
def bn1249 : e2_Q8 := (bn1222, bn885)
noncomputable def q_b205_0 : ev_H := (bn1249 : e2_Q8)
def bn1250 : e2_Q8 := (bn1222, bn888)
noncomputable def q_b205_1 : ev_H := (bn1250 : e2_Q8)
def bn1251 : e2_Q8 := (bn1222, bn891)
noncomputable def q_b205_2 : ev_H := (bn1251 : e2_Q8)
def bn1252 : e2_Q8 := (bn1222, bn894)
noncomputable def q_b205_3 : ev_H := (bn1252 : e2_Q8)
def bn1253 : e2_Q8 := (bn1222, bn882)
noncomputable def q_b205_4 : ev_H := (bn1253 : e2_Q8)
noncomputable def rs_b205 : e2_Rs := [((9, 0, 0), q_b205_0), ((9, 0, 0), q_b205_1), ((9, 0, 0), q_b205_2), ((9, 0, 0), q_b205_3), ((9, 0, 0), q_b205_4)]
noncomputable def s_b205 : e2_Sm := (196, as_b205, E_b205, f_b205, rs_b205)
noncomputable def S_b205 : List e2_Sm := [s_b63, s_b80, s_b81, s_b93, s_b94, s_b95, s_b96, s_b97, s_b100, s_b103, s_b104, s_b105, s_b106, s_b131, s_b132, s_b133, s_b134, s_b198]
noncomputable def I_b205 : List e2_In := [(179, 3, e2x_179)]
set_option maxRecDepth 1000000 in
theorem ck_b205 : e2_run (e2_cal S_b205 I_b205 4000 1) (e2_fin rs_b205) e2x_196 (fun _ => false) (fun _ _ _ _ _ => false) 4000 (e2_seek e2x_196 0) (e2_al 2 as_b205) [] E_b205 f_b205 = true := by decide +kernel
set_option maxRecDepth 1000000 in
theorem co_b205 : e2_okSB E_b205.length as_b205 f_b205 rs_b205 = true := by decide +kernel
theorem cs_b205 (hen : en_ok) (l : Launch) (hh : e2_hand_b l) : e2_smOk l 62 s_b205 := e2_con0 (H := 60) (n := 1) (C := evd_196) (S := S_b205) (I := I_b205) (fuel := 4000) [] hen ei_196 (e2_fa (hh _ hm_b63) (e2_fa ((cs_b80 hen l).mono (by decide)) (e2_fa ((cs_b81 hen l).mono (by decide)) (e2_fa ((cs_b93 hen l).mono (by decide)) (e2_fa ((cs_b94 hen l).mono (by decide)) (e2_fa ((cs_b95 hen l).mono (by decide)) (e2_fa ((cs_b96 hen l).mono (by decide)) (e2_fa ((cs_b97 hen l).mono (by decide)) (e2_fa ((cs_b100 hen l).mono (by decide)) (e2_fa ((cs_b103 hen l).mono (by decide)) (e2_fa ((cs_b104 hen l).mono (by decide)) (e2_fa ((cs_b105 hen l).mono (by decide)) (e2_fa ((cs_b106 hen l).mono (by decide)) (e2_fa ((cs_b131 hen l).mono (by decide)) (e2_fa ((cs_b132 hen l).mono (by decide)) (e2_fa ((cs_b133 hen l).mono (by decide)) (e2_fa ((cs_b134 hen l).mono (by decide)) (e2_fa ((cs_b198 hen l).mono (by decide)) e2_fz)))))))))))))))))) (e2_fa ein_179 e2_fz) (by decide) co_b205 ex2_196 ck_b205
/-! b206 X10_readGlyph -/
def as_b206 : List ev_V := [(2, 83, 0)]
def E_b206 : e2_E := [(2147483648, 2147583648, 0, 0), (2147483648, 2147483656, 1, 0), (2147483648, 2147485249, 2, 0)]
def bn1254 : e2_Q8 := (bn1172, bn898)
noncomputable def f_b206 : ev_H := (bn1254 : e2_Q8)
noncomputable def q_b206_0 : ev_H := (bn1249 : e2_Q8)
noncomputable def q_b206_1 : ev_H := (bn1250 : e2_Q8)
noncomputable def q_b206_2 : ev_H := (bn1251 : e2_Q8)
noncomputable def q_b206_3 : ev_H := (bn1252 : e2_Q8)
noncomputable def q_b206_4 : ev_H := (bn1253 : e2_Q8)
noncomputable def rs_b206 : e2_Rs := [((9, 0, 0), q_b206_0), ((9, 0, 0), q_b206_1), ((9, 0, 0), q_b206_2), ((9, 0, 0), q_b206_3), ((9, 0, 0), q_b206_4)]
noncomputable def s_b206 : e2_Sm := (196, as_b206, E_b206, f_b206, rs_b206)
noncomputable def S_b206 : List e2_Sm := [s_b64, s_b65, s_b66, s_b80, s_b81, s_b93, s_b94, s_b95, s_b96, s_b97, s_b103, s_b104, s_b105, s_b106, s_b116, s_b131, s_b132, s_b133, s_b134, s_b200]
noncomputable def I_b206 : List e2_In := [(179, 3, e2x_179)]
set_option maxRecDepth 1000000 in
theorem ck_b206 : e2_run (e2_cal S_b206 I_b206 4000 1) (e2_fin rs_b206) e2x_196 (fun _ => false) (fun _ _ _ _ _ => false) 4000 (e2_seek e2x_196 0) (e2_al 2 as_b206) [] E_b206 f_b206 = true := by decide +kernel
set_option maxRecDepth 1000000 in
theorem co_b206 : e2_okSB E_b206.length as_b206 f_b206 rs_b206 = true := by decide +kernel
theorem cs_b206 (hen : en_ok) (l : Launch) (hh : e2_hand_b l) : e2_smOk l 62 s_b206 := e2_con0 (H := 60) (n := 1) (C := evd_196) (S := S_b206) (I := I_b206) (fuel := 4000) [] hen ei_196 (e2_fa (hh _ hm_b64) (e2_fa (hh _ hm_b65) (e2_fa (hh _ hm_b66) (e2_fa ((cs_b80 hen l).mono (by decide)) (e2_fa ((cs_b81 hen l).mono (by decide)) (e2_fa ((cs_b93 hen l).mono (by decide)) (e2_fa ((cs_b94 hen l).mono (by decide)) (e2_fa ((cs_b95 hen l).mono (by decide)) (e2_fa ((cs_b96 hen l).mono (by decide)) (e2_fa ((cs_b97 hen l).mono (by decide)) (e2_fa ((cs_b103 hen l).mono (by decide)) (e2_fa ((cs_b104 hen l).mono (by decide)) (e2_fa ((cs_b105 hen l).mono (by decide)) (e2_fa ((cs_b106 hen l).mono (by decide)) (e2_fa ((cs_b116 hen l).mono (by decide)) (e2_fa ((cs_b131 hen l).mono (by decide)) (e2_fa ((cs_b132 hen l).mono (by decide)) (e2_fa ((cs_b133 hen l).mono (by decide)) (e2_fa ((cs_b134 hen l).mono (by decide)) (e2_fa ((cs_b200 hen l).mono (by decide)) e2_fz)))))))))))))))))))) (e2_fa ein_179 e2_fz) (by decide) co_b206 ex2_196 ck_b206
/-! b207 X10_readLine -/
def as_b207 : List ev_V := [(2, 83, 0)]
def E_b207 : e2_E := [(2147483648, 2147583648, 0, 0), (2147483648, 2147483656, 1, 0), (2147483648, 2147485249, 2, 0)]
def bn1255 : e2_Q8 := (bn1206, bn901)
noncomputable def f_b207 : ev_H := (bn1255 : e2_Q8)
noncomputable def q_b207_0 : ev_H := (bn1208 : e2_Q8)
noncomputable def q_b207_1 : ev_H := (bn1207 : e2_Q8)
noncomputable def q_b207_2 : ev_H := (bn1209 : e2_Q8)
noncomputable def q_b207_3 : ev_H := (bn1210 : e2_Q8)
noncomputable def q_b207_4 : ev_H := (bn1211 : e2_Q8)
def bn1256 : e2_Q7 := (bn1242, bn828)
def bn1257 : e2_Q8 := (bn1256, bn837)
noncomputable def q_b207_5 : ev_H := (bn1257 : e2_Q8)
def bn1258 : e2_Q8 := (bn1256, bn833)
noncomputable def q_b207_6 : ev_H := (bn1258 : e2_Q8)
def bn1259 : e2_Q8 := (bn1256, bn841)
noncomputable def q_b207_7 : ev_H := (bn1259 : e2_Q8)
def bn1260 : e2_Q8 := (bn1256, bn845)
noncomputable def q_b207_8 : ev_H := (bn1260 : e2_Q8)
def bn1261 : e2_Q8 := (bn1256, bn904)
noncomputable def q_b207_9 : ev_H := (bn1261 : e2_Q8)
noncomputable def rs_b207 : e2_Rs := [((9, 0, 0), q_b207_0), ((9, 0, 0), q_b207_1), ((9, 0, 0), q_b207_2), ((9, 0, 0), q_b207_3), ((9, 0, 0), q_b207_4), ((9, 0, 0), q_b207_5), ((9, 0, 0), q_b207_6), ((9, 0, 0), q_b207_7), ((9, 0, 0), q_b207_8), ((9, 0, 0), q_b207_9)]
noncomputable def s_b207 : e2_Sm := (187, as_b207, E_b207, f_b207, rs_b207)
noncomputable def S_b207 : List e2_Sm := [s_b74, s_b76, s_b77, s_b78, s_b79, s_b80, s_b81, s_b82, s_b83, s_b84, s_b85, s_b86, s_b98, s_b99, s_b124, s_b125, s_b126, s_b129, s_b202, s_b203, s_b205, s_b206]
noncomputable def I_b207 : List e2_In := [(170, 2, e2x_170), (173, 3, e2x_173), (174, 1, e2x_174), (178, 2, e2x_178), (179, 3, e2x_179), (180, 1, e2x_180), (186, 1, e2x_186)]
set_option maxRecDepth 1000000 in
theorem ck_b207 : e2_run (e2_cal S_b207 I_b207 4000 2) (e2_fin rs_b207) e2x_187 (fun _ => false) (fun _ _ _ _ _ => false) 4000 (e2_seek e2x_187 0) (e2_al 3 as_b207) [] E_b207 f_b207 = true := by decide +kernel
set_option maxRecDepth 1000000 in
theorem co_b207 : e2_okSB E_b207.length as_b207 f_b207 rs_b207 = true := by decide +kernel
theorem cs_b207 (hen : en_ok) (l : Launch) (hh : e2_hand_b l) : e2_smOk l 65 s_b207 := e2_con0 (H := 62) (n := 2) (C := evd_187) (S := S_b207) (I := I_b207) (fuel := 4000) [] hen ei_187 (e2_fa ((cs_b74 hen l).mono (by decide)) (e2_fa ((cs_b76 hen l).mono (by decide)) (e2_fa ((cs_b77 hen l).mono (by decide)) (e2_fa ((cs_b78 hen l).mono (by decide)) (e2_fa ((cs_b79 hen l).mono (by decide)) (e2_fa ((cs_b80 hen l).mono (by decide)) (e2_fa ((cs_b81 hen l).mono (by decide)) (e2_fa ((cs_b82 hen l).mono (by decide)) (e2_fa ((cs_b83 hen l).mono (by decide)) (e2_fa ((cs_b84 hen l).mono (by decide)) (e2_fa ((cs_b85 hen l).mono (by decide)) (e2_fa ((cs_b86 hen l).mono (by decide)) (e2_fa ((cs_b98 hen l).mono (by decide)) (e2_fa ((cs_b99 hen l).mono (by decide)) (e2_fa ((cs_b124 hen l hh).mono (by decide)) (e2_fa ((cs_b125 hen l hh).mono (by decide)) (e2_fa ((cs_b126 hen l).mono (by decide)) (e2_fa ((cs_b129 hen l).mono (by decide)) (e2_fa ((cs_b202 hen l).mono (by decide)) (e2_fa ((cs_b203 hen l).mono (by decide)) (e2_fa (cs_b205 hen l hh) (e2_fa (cs_b206 hen l hh) e2_fz)))))))))))))))))))))) (e2_fa ein_170 (e2_fa ein_173 (e2_fa ein_174 (e2_fa ein_178 (e2_fa ein_179 (e2_fa ein_180 (e2_fa ein_186 e2_fz))))))) (by decide) co_b207 ex2_187 ck_b207
/-! b208 X10_glyphHere -/
def as_b208 : List ev_V := [(2, 83, 0)]
def E_b208 : e2_E := [(2147483648, 2147583648, 0, 0), (2147483648, 2147483656, 1, 0), (2147483648, 2147485249, 2, 0)]
def bn1262 : e2_Q5 := (bn14, bn1219)
def bn1263 : e2_Q6 := (bn1262, bn334)
def bn1264 : e2_Q7 := (bn1263, bn273)
def bn1265 : e2_Q8 := (bn1264, bn573)
noncomputable def f_b208 : ev_H := (bn1265 : e2_Q8)
noncomputable def q_b208_0 : ev_H := (bn1265 : e2_Q8)
noncomputable def rs_b208 : e2_Rs := [((0, 4294967295, 0), q_b208_0)]
noncomputable def s_b208 : e2_Sm := (190, as_b208, E_b208, f_b208, rs_b208)
noncomputable def S_b208 : List e2_Sm := [s_b101]
noncomputable def I_b208 : List e2_In := []
set_option maxRecDepth 1000000 in
theorem ck_b208 : e2_run (e2_cal S_b208 I_b208 4000 0) (e2_fin rs_b208) e2x_190 (fun _ => false) (fun _ _ _ _ _ => false) 4000 (e2_seek e2x_190 0) (e2_al 1 as_b208) [] E_b208 f_b208 = true := by decide +kernel
set_option maxRecDepth 1000000 in
theorem co_b208 : e2_okSB E_b208.length as_b208 f_b208 rs_b208 = true := by decide +kernel
theorem cs_b208 (hen : en_ok) (l : Launch) : e2_smOk l 2 s_b208 := e2_con0 (H := 1) (n := 0) (C := evd_190) (S := S_b208) (I := I_b208) (fuel := 4000) [] hen ei_190 (e2_fa (cs_b101 hen l) e2_fz) e2_fz (by decide) co_b208 ex2_190 ck_b208
/-! b209 X10_readNever -/
def as_b209 : List ev_V := [(2, 83, 0)]
def E_b209 : e2_E := [(2147483648, 2147583648, 0, 0), (2147483648, 2147483656, 1, 0), (2147483648, 2147485249, 2, 0)]
noncomputable def f_b209 : ev_H := (bn1265 : e2_Q8)
def bn1266 : e2_Q8 := (bn1264, bn555)
noncomputable def q_b209_0 : ev_H := (bn1266 : e2_Q8)
noncomputable def rs_b209 : e2_Rs := [((9, 0, 0), q_b209_0)]
noncomputable def s_b209 : e2_Sm := (197, as_b209, E_b209, f_b209, rs_b209)
noncomputable def S_b209 : List e2_Sm := [s_b103, s_b208]
noncomputable def I_b209 : List e2_In := [(174, 1, e2x_174)]
set_option maxRecDepth 1000000 in
theorem ck_b209 : e2_run (e2_cal S_b209 I_b209 4000 1) (e2_fin rs_b209) e2x_197 (fun _ => false) (fun _ _ _ _ _ => false) 4000 (e2_seek e2x_197 0) (e2_al 3 as_b209) [] E_b209 f_b209 = true := by decide +kernel
set_option maxRecDepth 1000000 in
theorem co_b209 : e2_okSB E_b209.length as_b209 f_b209 rs_b209 = true := by decide +kernel
theorem cs_b209 (hen : en_ok) (l : Launch) : e2_smOk l 5 s_b209 := e2_con0 (H := 3) (n := 1) (C := evd_197) (S := S_b209) (I := I_b209) (fuel := 4000) [] hen ei_197 (e2_fa (cs_b103 hen l) (e2_fa ((cs_b208 hen l).mono (by decide)) e2_fz)) (e2_fa ein_174 e2_fz) (by decide) co_b209 ex2_197 ck_b209
/-! b210 X10_glyphHere -/
def as_b210 : List ev_V := [(2, 83, 0)]
def E_b210 : e2_E := [(2147483648, 2147583648, 0, 0), (2147483648, 2147483656, 1, 0), (2147483648, 2147485249, 2, 0)]
def bn1267 : e2_Q7 := (bn1263, bn727)
def bn1268 : e2_Q8 := (bn1267, bn729)
noncomputable def f_b210 : ev_H := (bn1268 : e2_Q8)
noncomputable def q_b210_0 : ev_H := (bn1268 : e2_Q8)
noncomputable def rs_b210 : e2_Rs := [((11, 2147483647, 2147483655), q_b210_0)]
noncomputable def s_b210 : e2_Sm := (190, as_b210, E_b210, f_b210, rs_b210)
noncomputable def S_b210 : List e2_Sm := [s_b117]
noncomputable def I_b210 : List e2_In := []
set_option maxRecDepth 1000000 in
theorem ck_b210 : e2_run (e2_cal S_b210 I_b210 4000 0) (e2_fin rs_b210) e2x_190 (fun _ => false) (fun _ _ _ _ _ => false) 4000 (e2_seek e2x_190 0) (e2_al 1 as_b210) [] E_b210 f_b210 = true := by decide +kernel
set_option maxRecDepth 1000000 in
theorem co_b210 : e2_okSB E_b210.length as_b210 f_b210 rs_b210 = true := by decide +kernel
theorem cs_b210 (hen : en_ok) (l : Launch) : e2_smOk l 2 s_b210 := e2_con0 (H := 1) (n := 0) (C := evd_190) (S := S_b210) (I := I_b210) (fuel := 4000) [] hen ei_190 (e2_fa (cs_b117 hen l) e2_fz) e2_fz (by decide) co_b210 ex2_190 ck_b210
/-! b211 X10_readNever -/
def as_b211 : List ev_V := [(2, 83, 0)]
def E_b211 : e2_E := [(2147483648, 2147583648, 0, 0), (2147483648, 2147483656, 1, 0), (2147483648, 2147485249, 2, 0)]
def bn1269 : e2_Q6 := (bn1262, bn739)
def bn1270 : e2_Q7 := (bn1269, bn727)
def bn1271 : e2_Q8 := (bn1270, bn743)
noncomputable def f_b211 : ev_H := (bn1271 : e2_Q8)
def bn1272 : e2_Q8 := (bn1270, bn745)
noncomputable def q_b211_0 : ev_H := (bn1272 : e2_Q8)
def bn1273 : e2_Q8 := (bn1270, bn747)
noncomputable def q_b211_1 : ev_H := (bn1273 : e2_Q8)
def bn1274 : e2_Q8 := (bn1270, bn749)
noncomputable def q_b211_2 : ev_H := (bn1274 : e2_Q8)
def bn1275 : e2_Q8 := (bn1270, bn751)
noncomputable def q_b211_3 : ev_H := (bn1275 : e2_Q8)
noncomputable def rs_b211 : e2_Rs := [((9, 0, 0), q_b211_0), ((9, 0, 0), q_b211_1), ((9, 0, 0), q_b211_2), ((9, 0, 0), q_b211_3)]
noncomputable def s_b211 : e2_Sm := (197, as_b211, E_b211, f_b211, rs_b211)
noncomputable def S_b211 : List e2_Sm := [s_b103, s_b121, s_b122, s_b208, s_b210]
noncomputable def I_b211 : List e2_In := [(173, 3, e2x_173), (174, 1, e2x_174)]
set_option maxRecDepth 1000000 in
theorem ck_b211 : e2_run (e2_cal S_b211 I_b211 4000 1) (e2_fin rs_b211) e2x_197 (fun _ => false) (fun _ _ _ _ _ => false) 4000 (e2_seek e2x_197 0) (e2_al 3 as_b211) [] E_b211 f_b211 = true := by decide +kernel
set_option maxRecDepth 1000000 in
theorem co_b211 : e2_okSB E_b211.length as_b211 f_b211 rs_b211 = true := by decide +kernel
theorem cs_b211 (hen : en_ok) (l : Launch) : e2_smOk l 8 s_b211 := e2_con0 (H := 6) (n := 1) (C := evd_197) (S := S_b211) (I := I_b211) (fuel := 4000) [] hen ei_197 (e2_fa ((cs_b103 hen l).mono (by decide)) (e2_fa (cs_b121 hen l) (e2_fa ((cs_b122 hen l).mono (by decide)) (e2_fa ((cs_b208 hen l).mono (by decide)) (e2_fa ((cs_b210 hen l).mono (by decide)) e2_fz))))) (e2_fa ein_173 (e2_fa ein_174 e2_fz)) (by decide) co_b211 ex2_197 ck_b211
/-! b212 X10_readLine -/
def as_b212 : List ev_V := [(2, 83, 0)]
def E_b212 : e2_E := [(2147483648, 2147583648, 0, 0), (2147483648, 2147483656, 1, 0), (2147483648, 2147485249, 2, 0)]
def bn1276 : e2_Q5 := (bn14, bn1240)
def bn1277 : e2_Q6 := (bn1276, bn805)
def bn1278 : e2_Q5 := (bn77, bn807)
def bn1279 : e2_Q6 := (bn1278, bn811)
def bn1280 : e2_Q7 := (bn1277, bn1279)
def bn1281 : e2_Q5 := (bn141, bn814)
def bn1282 : e2_Q6 := (bn1281, bn817)
def bn1283 : e2_Q5 := (bn488, bn820)
def bn1284 : e2_Q6 := (bn1283, bn822)
def bn1285 : e2_Q7 := (bn1282, bn1284)
def bn1286 : e2_Q8 := (bn1280, bn1285)
noncomputable def f_b212 : ev_H := (bn1286 : e2_Q8)
def bn1287 : e2_Q6 := (bn1278, bn827)
def bn1288 : e2_Q7 := (bn1277, bn1287)
def bn1289 : e2_Q5 := (bn590, bn820)
def bn1290 : e2_Q6 := (bn1289, bn831)
def bn1291 : e2_Q7 := (bn1282, bn1290)
def bn1292 : e2_Q8 := (bn1288, bn1291)
noncomputable def q_b212_0 : ev_H := (bn1292 : e2_Q8)
def bn1293 : e2_Q5 := (bn552, bn820)
def bn1294 : e2_Q6 := (bn1293, bn831)
def bn1295 : e2_Q7 := (bn1282, bn1294)
def bn1296 : e2_Q8 := (bn1288, bn1295)
noncomputable def q_b212_1 : ev_H := (bn1296 : e2_Q8)
def bn1297 : e2_Q5 := (bn456, bn820)
def bn1298 : e2_Q6 := (bn1297, bn831)
def bn1299 : e2_Q7 := (bn1282, bn1298)
def bn1300 : e2_Q8 := (bn1288, bn1299)
noncomputable def q_b212_2 : ev_H := (bn1300 : e2_Q8)
def bn1301 : e2_Q5 := (bn464, bn820)
def bn1302 : e2_Q6 := (bn1301, bn831)
def bn1303 : e2_Q7 := (bn1282, bn1302)
def bn1304 : e2_Q8 := (bn1288, bn1303)
noncomputable def q_b212_3 : ev_H := (bn1304 : e2_Q8)
def bn1305 : e2_Q5 := (bn582, bn820)
def bn1306 : e2_Q6 := (bn1305, bn822)
def bn1307 : e2_Q7 := (bn1282, bn1306)
def bn1308 : e2_Q8 := (bn1280, bn1307)
noncomputable def q_b212_4 : ev_H := (bn1308 : e2_Q8)
noncomputable def rs_b212 : e2_Rs := [((9, 0, 0), q_b212_0), ((9, 0, 0), q_b212_1), ((9, 0, 0), q_b212_2), ((9, 0, 0), q_b212_3), ((9, 0, 0), q_b212_4)]
noncomputable def s_b212 : e2_Sm := (187, as_b212, E_b212, f_b212, rs_b212)
noncomputable def S_b212 : List e2_Sm := [s_b74, s_b76, s_b77, s_b78, s_b79, s_b80, s_b81, s_b85, s_b86, s_b98, s_b99, s_b124, s_b125, s_b126, s_b129, s_b209, s_b211]
noncomputable def I_b212 : List e2_In := [(170, 2, e2x_170), (173, 3, e2x_173), (174, 1, e2x_174), (178, 2, e2x_178), (179, 3, e2x_179), (180, 1, e2x_180), (186, 1, e2x_186)]
set_option maxRecDepth 1000000 in
theorem ck_b212 : e2_run (e2_cal S_b212 I_b212 4000 2) (e2_fin rs_b212) e2x_187 (fun _ => false) (fun _ _ _ _ _ => false) 4000 (e2_seek e2x_187 0) (e2_al 3 as_b212) [] E_b212 f_b212 = true := by decide +kernel
set_option maxRecDepth 1000000 in
theorem co_b212 : e2_okSB E_b212.length as_b212 f_b212 rs_b212 = true := by decide +kernel
theorem cs_b212 (hen : en_ok) (l : Launch) (hh : e2_hand_b l) : e2_smOk l 64 s_b212 := e2_con0 (H := 61) (n := 2) (C := evd_187) (S := S_b212) (I := I_b212) (fuel := 4000) [] hen ei_187 (e2_fa ((cs_b74 hen l).mono (by decide)) (e2_fa ((cs_b76 hen l).mono (by decide)) (e2_fa ((cs_b77 hen l).mono (by decide)) (e2_fa ((cs_b78 hen l).mono (by decide)) (e2_fa ((cs_b79 hen l).mono (by decide)) (e2_fa ((cs_b80 hen l).mono (by decide)) (e2_fa ((cs_b81 hen l).mono (by decide)) (e2_fa ((cs_b85 hen l).mono (by decide)) (e2_fa ((cs_b86 hen l).mono (by decide)) (e2_fa ((cs_b98 hen l).mono (by decide)) (e2_fa ((cs_b99 hen l).mono (by decide)) (e2_fa (cs_b124 hen l hh) (e2_fa (cs_b125 hen l hh) (e2_fa ((cs_b126 hen l).mono (by decide)) (e2_fa ((cs_b129 hen l).mono (by decide)) (e2_fa ((cs_b209 hen l).mono (by decide)) (e2_fa ((cs_b211 hen l).mono (by decide)) e2_fz))))))))))))))))) (e2_fa ein_170 (e2_fa ein_173 (e2_fa ein_174 (e2_fa ein_178 (e2_fa ein_179 (e2_fa ein_180 (e2_fa ein_186 e2_fz))))))) (by decide) co_b212 ex2_187 ck_b212
/-! b213 X10_readLine -/
def as_b213 : List ev_V := [(2, 83, 0)]
def E_b213 : e2_E := [(2147483648, 2147583648, 0, 0), (2147483648, 2147483656, 1, 0), (2147483648, 2147485249, 2, 0)]
def bn1309 : e2_Q6 := (bn1283, bn831)
def bn1310 : e2_Q7 := (bn1282, bn1309)
def bn1311 : e2_Q8 := (bn1288, bn1310)
noncomputable def f_b213 : ev_H := (bn1311 : e2_Q8)
noncomputable def q_b213_0 : ev_H := (bn1292 : e2_Q8)
noncomputable def q_b213_1 : ev_H := (bn1296 : e2_Q8)
noncomputable def q_b213_2 : ev_H := (bn1300 : e2_Q8)
noncomputable def q_b213_3 : ev_H := (bn1304 : e2_Q8)
def bn1312 : e2_Q6 := (bn1305, bn831)
def bn1313 : e2_Q7 := (bn1282, bn1312)
def bn1314 : e2_Q8 := (bn1288, bn1313)
noncomputable def q_b213_4 : ev_H := (bn1314 : e2_Q8)
noncomputable def rs_b213 : e2_Rs := [((9, 0, 0), q_b213_0), ((9, 0, 0), q_b213_1), ((9, 0, 0), q_b213_2), ((9, 0, 0), q_b213_3), ((9, 0, 0), q_b213_4)]
noncomputable def s_b213 : e2_Sm := (187, as_b213, E_b213, f_b213, rs_b213)
noncomputable def S_b213 : List e2_Sm := [s_b74, s_b76, s_b77, s_b78, s_b79, s_b80, s_b81, s_b85, s_b86, s_b98, s_b99, s_b124, s_b125, s_b126, s_b129, s_b209, s_b211]
noncomputable def I_b213 : List e2_In := [(170, 2, e2x_170), (173, 3, e2x_173), (174, 1, e2x_174), (178, 2, e2x_178), (179, 3, e2x_179), (180, 1, e2x_180), (186, 1, e2x_186)]
set_option maxRecDepth 1000000 in
theorem ck_b213 : e2_run (e2_cal S_b213 I_b213 4000 2) (e2_fin rs_b213) e2x_187 (fun _ => false) (fun _ _ _ _ _ => false) 4000 (e2_seek e2x_187 0) (e2_al 3 as_b213) [] E_b213 f_b213 = true := by decide +kernel
set_option maxRecDepth 1000000 in
theorem co_b213 : e2_okSB E_b213.length as_b213 f_b213 rs_b213 = true := by decide +kernel
theorem cs_b213 (hen : en_ok) (l : Launch) (hh : e2_hand_b l) : e2_smOk l 64 s_b213 := e2_con0 (H := 61) (n := 2) (C := evd_187) (S := S_b213) (I := I_b213) (fuel := 4000) [] hen ei_187 (e2_fa ((cs_b74 hen l).mono (by decide)) (e2_fa ((cs_b76 hen l).mono (by decide)) (e2_fa ((cs_b77 hen l).mono (by decide)) (e2_fa ((cs_b78 hen l).mono (by decide)) (e2_fa ((cs_b79 hen l).mono (by decide)) (e2_fa ((cs_b80 hen l).mono (by decide)) (e2_fa ((cs_b81 hen l).mono (by decide)) (e2_fa ((cs_b85 hen l).mono (by decide)) (e2_fa ((cs_b86 hen l).mono (by decide)) (e2_fa ((cs_b98 hen l).mono (by decide)) (e2_fa ((cs_b99 hen l).mono (by decide)) (e2_fa (cs_b124 hen l hh) (e2_fa (cs_b125 hen l hh) (e2_fa ((cs_b126 hen l).mono (by decide)) (e2_fa ((cs_b129 hen l).mono (by decide)) (e2_fa ((cs_b209 hen l).mono (by decide)) (e2_fa ((cs_b211 hen l).mono (by decide)) e2_fz))))))))))))))))) (e2_fa ein_170 (e2_fa ein_173 (e2_fa ein_174 (e2_fa ein_178 (e2_fa ein_179 (e2_fa ein_180 (e2_fa ein_186 e2_fz))))))) (by decide) co_b213 ex2_187 ck_b213
/-! b214 X10_mown -/
def as_b214 : List ev_V := [(2, 83, 0)]
def E_b214 : e2_E := [(2147483648, 2147583648, 0, 0), (2147483648, 2147483656, 1, 0)]
def bn1315 : e2_Q6 := (bn298, bn334)
def bn1316 : e2_Q5 := (bn370, bn271)
def bn1317 : e2_Q6 := (bn93, bn1316)
def bn1318 : e2_Q7 := (bn1315, bn1317)
def bn1319 : e2_Q5 := (bn324, bn289)
def bn1320 : e2_Q6 := (bn1319, bn250)
def bn1321 : e2_Q7 := (bn339, bn1320)
def bn1322 : e2_Q8 := (bn1318, bn1321)
noncomputable def f_b214 : ev_H := (bn1322 : e2_Q8)
noncomputable def q_b214_0 : ev_H := (bn1322 : e2_Q8)
noncomputable def rs_b214 : e2_Rs := [((11, 0, 4294967295), q_b214_0)]
noncomputable def s_b214 : e2_Sm := (221, as_b214, E_b214, f_b214, rs_b214)
noncomputable def S_b214 : List e2_Sm := []
noncomputable def I_b214 : List e2_In := [(216, 1, e2x_216)]
set_option maxRecDepth 1000000 in
theorem co_b214 : e2_okSB E_b214.length as_b214 f_b214 rs_b214 = true := by decide +kernel
def al_b214_0 : List ev_V := [(2, 83, 0), (11, 0, 4294967295), (1, 2, 4294967296)]
def E_b214_0 : e2_E := [(2147483648, 2147583648, 0, 0), (2147483648, 2147483656, 1, 0), (2147483648, 2147483668, 2, 0)]
noncomputable def h_b214_0 : ev_H := (bn1322 : e2_Q8)
noncomputable def cl_b214_e : List (Nat × e2_S) := [(4, e2_cutL (al_b214_0.set 2 (11, 2147483648, 2147483668)) 2 (E_b214_0.take 2) h_b214_0)]
set_option maxRecDepth 1000000 in
theorem ck_b214_e : e2_run (e2_cal S_b214 I_b214 4000 1) (e2_fin rs_b214) e2x_221 (e2_bpL cl_b214_e) (e2_cutA cl_b214_e) 4000 (e2_seek e2x_221 0) (e2_al 3 as_b214) [] E_b214 f_b214 = true := by decide +kernel
noncomputable def cl_b214_0 : List (Nat × e2_S) := [(4, e2_cutL (al_b214_0.set 2 (13, 10, 2147483668)) 2 (E_b214_0.take 2) h_b214_0)]
set_option maxRecDepth 1000000 in
theorem ck_b214_0 : e2_runM (e2_cal S_b214 I_b214 4000 1) (e2_fin rs_b214) e2x_221 (e2_bpL cl_b214_0) (e2_cutA cl_b214_0) 4000 (e2_seek e2x_221 4) al_b214_0 [] E_b214_0 h_b214_0 = true := by decide +kernel
set_option maxRecDepth 1000000 in
theorem ci_b214_0 : e2_idl 2 (al_b214_0.set 2 (9, 0, 0)) = true := by decide +kernel
set_option maxRecDepth 1000000 in
theorem cj_b214_0 : e2_idh 2 8 h_b214_0 = true := by decide +kernel
theorem cs_b214 (hen : en_ok) (l : Launch) : e2_smOk l 2 s_b214 := by
  refine e2_conG (H := 0) (n := 1) (C := evd_221) (S := S_b214) (I := I_b214) (fuel := 4000) hen ei_221 e2_fz (e2_fa ein_216 e2_fz) (by decide) co_b214 fun M d _ hC hcall p e R s m args below meth c Q D cA A ads r0 ha hl0 => ?_
  have L_0 : e2_gdM M p l e R s m args below meth c Q D cA A ads r0 4 al_b214_0 [] E_b214_0 h_b214_0 := by
    refine e2_indL (u := 2) (j := 2) (lo := 2147483648) (hi := 2147483668) (b := 2) (dd := 0) hl0 (by decide) rfl rfl (Or.inr ⟨rfl, rfl⟩) rfl ci_b214_0 cj_b214_0 ?_
    intro r_0 k_0 hk_0 hp_0 hs_0 hn_0
    have hl_0 : r_0.length ≤ 3 := hs_0.len rfl
    have ha_0 := ha.ext hp_0
    exact e2_fromM hen ha_0 hcall (e2_cutA_ok (e2_fa (fun al st E h hc => hn_0 al st E h hc) e2_fz)) (hC []) (X := e2x_221) ex2_221 4 ck_b214_0
  have EN_0 := e2_entL (u := 2) (j := 2) (lo := 2147483648) (hi := 2147483668) hl0 rfl rfl rfl ci_b214_0 cj_b214_0 L_0
  exact e2_from hen ha hcall (e2_cutA_ok (e2_fa (fun al st E h hc => EN_0 al st E h hc) e2_fz)) (hC []) (X := e2x_221) ex2_221 0 ck_b214_e
/-! b215 X10_looks -/
def as_b215 : List ev_V := [(2, 83, 0)]
def E_b215 : e2_E := [(2147483648, 2147583648, 0, 0), (2147483648, 2147483656, 1, 0)]
def bn1323 : e2_Q5 := (bn324, bn393)
def bn1324 : e2_Q6 := (bn1323, bn250)
def bn1325 : e2_Q7 := (bn339, bn1324)
def bn1326 : e2_Q8 := (bn1318, bn1325)
noncomputable def f_b215 : ev_H := (bn1326 : e2_Q8)
noncomputable def q_b215_0 : ev_H := (bn1326 : e2_Q8)
noncomputable def rs_b215 : e2_Rs := [((11, 0, 4294967295), q_b215_0)]
noncomputable def s_b215 : e2_Sm := (222, as_b215, E_b215, f_b215, rs_b215)
noncomputable def S_b215 : List e2_Sm := [s_b214]
noncomputable def I_b215 : List e2_In := []
set_option maxRecDepth 1000000 in
theorem ck_b215 : e2_run (e2_cal S_b215 I_b215 4000 0) (e2_fin rs_b215) e2x_222 (fun _ => false) (fun _ _ _ _ _ => false) 4000 (e2_seek e2x_222 0) (e2_al 1 as_b215) [] E_b215 f_b215 = true := by decide +kernel
set_option maxRecDepth 1000000 in
theorem co_b215 : e2_okSB E_b215.length as_b215 f_b215 rs_b215 = true := by decide +kernel
theorem cs_b215 (hen : en_ok) (l : Launch) : e2_smOk l 3 s_b215 := e2_con0 (H := 2) (n := 0) (C := evd_222) (S := S_b215) (I := I_b215) (fuel := 4000) [] hen ei_222 (e2_fa (cs_b214 hen l) e2_fz) e2_fz (by decide) co_b215 ex2_222 ck_b215
/-! b216 X10_openCells -/
def as_b216 : List ev_V := [(2, 83, 0)]
def E_b216 : e2_E := [(2147483648, 2147583648, 0, 0), (2147483648, 2147483656, 1, 0)]
noncomputable def f_b216 : ev_H := (bn1326 : e2_Q8)
noncomputable def q_b216_0 : ev_H := (bn1326 : e2_Q8)
noncomputable def rs_b216 : e2_Rs := [((11, 0, 4294967295), q_b216_0)]
noncomputable def s_b216 : e2_Sm := (223, as_b216, E_b216, f_b216, rs_b216)
noncomputable def S_b216 : List e2_Sm := [s_b215]
noncomputable def I_b216 : List e2_In := [(216, 1, e2x_216)]
set_option maxRecDepth 1000000 in
theorem ck_b216 : e2_run (e2_cal S_b216 I_b216 4000 1) (e2_fin rs_b216) e2x_223 (fun _ => false) (fun _ _ _ _ _ => false) 4000 (e2_seek e2x_223 0) (e2_al 1 as_b216) [] E_b216 f_b216 = true := by decide +kernel
set_option maxRecDepth 1000000 in
theorem co_b216 : e2_okSB E_b216.length as_b216 f_b216 rs_b216 = true := by decide +kernel
theorem cs_b216 (hen : en_ok) (l : Launch) : e2_smOk l 5 s_b216 := e2_con0 (H := 3) (n := 1) (C := evd_223) (S := S_b216) (I := I_b216) (fuel := 4000) [] hen ei_223 (e2_fa (cs_b215 hen l) e2_fz) (e2_fa ein_216 e2_fz) (by decide) co_b216 ex2_223 ck_b216
/-! b217 X10_layWeights -/
def as_b217 : List ev_V := [(2, 83, 0)]
def E_b217 : e2_E := [(2147483648, 2147583648, 0, 0), (2147483648, 2147483656, 1, 0)]
def bn1327 : e2_Q5 := (bn297, bn354)
def bn1328 : e2_Q6 := (bn1327, bn304)
def bn1329 : e2_Q5 := (bn681, bn92)
def bn1330 : e2_Q5 := (bn809, bn271)
def bn1331 : e2_Q6 := (bn1329, bn1330)
def bn1332 : e2_Q7 := (bn1328, bn1331)
def bc192 : ev_C := (54, [(0, 160, 0), (11, 0, 4294967295)])
def bn1333 : e2_Q1 := (bc192, bc3)
def bn1334 : e2_Q2 := (bn137, bn1333)
def bn1335 : e2_Q3 := (bn136, bn1334)
def bn1336 : e2_Q4 := (bn277, bn1335)
def bn1337 : e2_Q5 := (bn1336, bn156)
def bn1338 : e2_Q6 := (bn1337, bn319)
def bn1339 : e2_Q7 := (bn1338, bn331)
def bn1340 : e2_Q8 := (bn1332, bn1339)
noncomputable def f_b217 : ev_H := (bn1340 : e2_Q8)
noncomputable def q_b217_0 : ev_H := (bn1340 : e2_Q8)
noncomputable def rs_b217 : e2_Rs := [((9, 0, 0), q_b217_0)]
noncomputable def s_b217 : e2_Sm := (224, as_b217, E_b217, f_b217, rs_b217)
noncomputable def S_b217 : List e2_Sm := [s_b67]
noncomputable def I_b217 : List e2_In := [(213, 2, e2x_213), (216, 1, e2x_216), (217, 1, e2x_217)]
set_option maxRecDepth 1000000 in
theorem co_b217 : e2_okSB E_b217.length as_b217 f_b217 rs_b217 = true := by decide +kernel
def al_b217_0 : List ev_V := [(2, 83, 0), (1, 2, 4294967296), (9, 0, 0), (9, 0, 0)]
def E_b217_0 : e2_E := [(2147483648, 2147583648, 0, 0), (2147483648, 2147483656, 1, 0), (2147483648, 2147483656, 2, 0)]
noncomputable def h_b217_0 : ev_H := (bn1340 : e2_Q8)
def al_b217_1 : List ev_V := [(2, 83, 0), (1, 2, 4294967296), (11, 2147483648, 2147483655), (1, 3, 4294967296)]
def E_b217_1 : e2_E := [(2147483648, 2147583648, 0, 0), (2147483649, 2147483656, 1, 0), (2147483648, 2147483655, 2, 0), (2147483648, 2147483668, 3, 0)]
noncomputable def h_b217_1 : ev_H := (bn1340 : e2_Q8)
noncomputable def cl_b217_e : List (Nat × e2_S) := [(12, e2_cutL (al_b217_0.set 1 (11, 2147483648, 2147483656)) 2 (E_b217_0.take 2) h_b217_0)]
set_option maxRecDepth 1000000 in
theorem ck_b217_e : e2_run (e2_cal S_b217 I_b217 4000 1) (e2_fin rs_b217) e2x_224 (e2_bpL cl_b217_e) (e2_cutA cl_b217_e) 4000 (e2_seek e2x_224 0) (e2_al 4 as_b217) [] E_b217 f_b217 = true := by decide +kernel
noncomputable def cl_b217_0 : List (Nat × e2_S) := [(60, e2_cutL (al_b217_1.set 3 (11, 2147483648, 2147483668)) 3 (E_b217_1.take 3) h_b217_1)]
set_option maxRecDepth 1000000 in
theorem ck_b217_0 : e2_runM (e2_cal S_b217 I_b217 4000 1) (e2_fin rs_b217) e2x_224 (e2_bpL cl_b217_0) (e2_cutA cl_b217_0) 4000 (e2_seek e2x_224 12) al_b217_0 [] E_b217_0 h_b217_0 = true := by decide +kernel
set_option maxRecDepth 1000000 in
theorem ci_b217_0 : e2_idl 2 (al_b217_0.set 1 (9, 0, 0)) = true := by decide +kernel
set_option maxRecDepth 1000000 in
theorem cj_b217_0 : e2_idh 2 8 h_b217_0 = true := by decide +kernel
noncomputable def cl_b217_1 : List (Nat × e2_S) := [(12, e2_cutL (al_b217_0.set 1 (13, 10, 2147483656)) 2 (E_b217_0.take 2) h_b217_0),
  (60, e2_cutL (al_b217_1.set 3 (13, 11, 2147483668)) 3 (E_b217_1.take 3) h_b217_1)]
set_option maxRecDepth 1000000 in
theorem ck_b217_1 : e2_runM (e2_cal S_b217 I_b217 4000 1) (e2_fin rs_b217) e2x_224 (e2_bpL cl_b217_1) (e2_cutA cl_b217_1) 4000 (e2_seek e2x_224 60) al_b217_1 [] E_b217_1 h_b217_1 = true := by decide +kernel
set_option maxRecDepth 1000000 in
theorem ci_b217_1 : e2_idl 3 (al_b217_1.set 3 (9, 0, 0)) = true := by decide +kernel
set_option maxRecDepth 1000000 in
theorem cj_b217_1 : e2_idh 3 8 h_b217_1 = true := by decide +kernel
theorem cs_b217 (hen : en_ok) (l : Launch) (hh : e2_hand_b l) : e2_smOk l 62 s_b217 := by
  refine e2_conG (H := 60) (n := 1) (C := evd_224) (S := S_b217) (I := I_b217) (fuel := 4000) hen ei_224 (e2_fa (hh _ hm_b67) e2_fz) (e2_fa ein_213 (e2_fa ein_216 (e2_fa ein_217 e2_fz))) (by decide) co_b217 fun M d _ hC hcall p e R s m args below meth c Q D cA A ads r0 ha hl0 => ?_
  have L_0 : e2_gdM M p l e R s m args below meth c Q D cA A ads r0 12 al_b217_0 [] E_b217_0 h_b217_0 := by
    refine e2_indL (u := 2) (j := 1) (lo := 2147483648) (hi := 2147483656) (b := 2) (dd := 0) hl0 (by decide) rfl rfl (Or.inr ⟨rfl, rfl⟩) rfl ci_b217_0 cj_b217_0 ?_
    intro r_0 k_0 hk_0 hp_0 hs_0 hn_0
    have hl_0 : r_0.length ≤ 3 := hs_0.len rfl
    have ha_0 := ha.ext hp_0
    have L_1 : e2_gdM M p l e R s m args below meth c Q D cA A ads r_0 60 al_b217_1 [] E_b217_1 h_b217_1 := by
      refine e2_indL (u := 3) (j := 3) (lo := 2147483648) (hi := 2147483668) (b := 3) (dd := 0) hl_0 (by decide) rfl rfl (Or.inr ⟨rfl, rfl⟩) rfl ci_b217_1 cj_b217_1 ?_
      intro r_1 k_1 hk_1 hp_1 hs_1 hn_1
      have hl_1 : r_1.length ≤ 4 := hs_1.len rfl
      have ha_1 := ha_0.ext hp_1
      exact e2_fromM hen ha_1 hcall (e2_cutA_ok (e2_fa (fun al st E h hc => (hn_0 al st E h hc).ext hp_1) (e2_fa (fun al st E h hc => hn_1 al st E h hc) e2_fz))) (hC []) (X := e2x_224) ex2_224 60 ck_b217_1
    have EN_1 := e2_entL (u := 3) (j := 3) (lo := 2147483648) (hi := 2147483668) hl_0 rfl rfl rfl ci_b217_1 cj_b217_1 L_1
    exact e2_fromM hen ha_0 hcall (e2_cutA_ok (e2_fa (fun al st E h hc => EN_1 al st E h hc) e2_fz)) (hC []) (X := e2x_224) ex2_224 12 ck_b217_0
  have EN_0 := e2_entL (u := 2) (j := 1) (lo := 2147483648) (hi := 2147483656) hl0 rfl rfl rfl ci_b217_0 cj_b217_0 L_0
  exact e2_from hen ha hcall (e2_cutA_ok (e2_fa (fun al st E h hc => EN_0 al st E h hc) e2_fz)) (hC []) (X := e2x_224) ex2_224 0 ck_b217_e
/-! b218 X10_layFrom -/
def as_b218 : List ev_V := [(2, 83, 0), (11, 2147483648, 2147483667), (11, 2147483648, 2147483656), (11, 0, 4294967295)]
def E_b218 : e2_E := [(2147483648, 2147583648, 0, 0), (2147483648, 2147483656, 1, 0)]
def bn1341 : e2_Q4 := (bn21, bn353)
def bn1342 : e2_Q5 := (bn257, bn1341)
def bn1343 : e2_Q6 := (bn1342, bn739)
def bc193 : ev_C := (54, [(0, 189, 0), (11, 0, 4294967295)])
def bn1344 : e2_Q1 := (bc193, bc3)
def bn1345 : e2_Q2 := (bn73, bn1344)
def bn1346 : e2_Q3 := (bn72, bn1345)
def bn1347 : e2_Q4 := (bn69, bn1346)
def bn1348 : e2_Q5 := (bn1347, bn92)
def bn1349 : e2_Q6 := (bn1348, bn1316)
def bn1350 : e2_Q7 := (bn1343, bn1349)
def bn1351 : e2_Q6 := (bn1337, bn338)
def bn1352 : e2_Q2 := (bn199, bn1344)
def bn1353 : e2_Q3 := (bn322, bn1352)
def bn1354 : e2_Q4 := (bn195, bn1353)
def bn1355 : e2_Q5 := (bn1354, bn289)
def bn1356 : e2_Q6 := (bn1355, bn250)
def bn1357 : e2_Q7 := (bn1351, bn1356)
def bn1358 : e2_Q8 := (bn1350, bn1357)
noncomputable def f_b218 : ev_H := (bn1358 : e2_Q8)
noncomputable def q_b218_0 : ev_H := (bn1358 : e2_Q8)
noncomputable def rs_b218 : e2_Rs := [((9, 0, 0), q_b218_0)]
noncomputable def s_b218 : e2_Sm := (229, as_b218, E_b218, f_b218, rs_b218)
noncomputable def S_b218 : List e2_Sm := []
noncomputable def I_b218 : List e2_In := [(215, 2, e2x_215), (216, 1, e2x_216), (217, 1, e2x_217), (225, 5, e2x_225), (226, 3, e2x_226), (227, 2, e2x_227), (228, 3, e2x_228)]
set_option maxRecDepth 1000000 in
theorem co_b218 : e2_okSB E_b218.length as_b218 f_b218 rs_b218 = true := by decide +kernel
def al_b218_0 : List ev_V := [(2, 83, 0), (11, 2147483648, 2147483667), (11, 2147483648, 2147483656), (11, 0, 4294967295), (11, 2147483648, 2147483827), (1, 2, 4294967296), (9, 0, 0), (9, 0, 0)]
def E_b218_0 : e2_E := [(2147483648, 2147583648, 0, 0), (2147483648, 2147483656, 1, 0), (2147483648, 2147483656, 2, 0)]
noncomputable def h_b218_0 : ev_H := (bn1358 : e2_Q8)
noncomputable def cl_b218_e : List (Nat × e2_S) := [(28, e2_cutL (al_b218_0.set 5 (11, 2147483648, 2147483656)) 2 (E_b218_0.take 2) h_b218_0)]
set_option maxRecDepth 1000000 in
theorem ck_b218_e : e2_run (e2_cal S_b218 I_b218 4000 2) (e2_fin rs_b218) e2x_229 (e2_bpL cl_b218_e) (e2_cutA cl_b218_e) 4000 (e2_seek e2x_229 0) (e2_al 8 as_b218) [] E_b218 f_b218 = true := by decide +kernel
noncomputable def cl_b218_0 : List (Nat × e2_S) := [(28, e2_cutL (al_b218_0.set 5 (13, 10, 2147483656)) 2 (E_b218_0.take 2) h_b218_0)]
set_option maxRecDepth 1000000 in
theorem ck_b218_0 : e2_runM (e2_cal S_b218 I_b218 4000 2) (e2_fin rs_b218) e2x_229 (e2_bpL cl_b218_0) (e2_cutA cl_b218_0) 4000 (e2_seek e2x_229 28) al_b218_0 [] E_b218_0 h_b218_0 = true := by decide +kernel
set_option maxRecDepth 1000000 in
theorem ci_b218_0 : e2_idl 2 (al_b218_0.set 5 (9, 0, 0)) = true := by decide +kernel
set_option maxRecDepth 1000000 in
theorem cj_b218_0 : e2_idh 2 8 h_b218_0 = true := by decide +kernel
theorem cs_b218 (hen : en_ok) (l : Launch) : e2_smOk l 3 s_b218 := by
  refine e2_conG (H := 0) (n := 2) (C := evd_229) (S := S_b218) (I := I_b218) (fuel := 4000) hen ei_229 e2_fz (e2_fa ein_215 (e2_fa ein_216 (e2_fa ein_217 (e2_fa ein_225 (e2_fa ein_226 (e2_fa ein_227 (e2_fa ein_228 e2_fz))))))) (by decide) co_b218 fun M d _ hC hcall p e R s m args below meth c Q D cA A ads r0 ha hl0 => ?_
  have L_0 : e2_gdM M p l e R s m args below meth c Q D cA A ads r0 28 al_b218_0 [] E_b218_0 h_b218_0 := by
    refine e2_indL (u := 2) (j := 5) (lo := 2147483648) (hi := 2147483656) (b := 2) (dd := 0) hl0 (by decide) rfl rfl (Or.inr ⟨rfl, rfl⟩) rfl ci_b218_0 cj_b218_0 ?_
    intro r_0 k_0 hk_0 hp_0 hs_0 hn_0
    have hl_0 : r_0.length ≤ 3 := hs_0.len rfl
    have ha_0 := ha.ext hp_0
    exact e2_fromM hen ha_0 hcall (e2_cutA_ok (e2_fa (fun al st E h hc => hn_0 al st E h hc) e2_fz)) (hC [28, 50]) (X := e2x_229) ex2_229 28 ck_b218_0
  have EN_0 := e2_entL (u := 2) (j := 5) (lo := 2147483648) (hi := 2147483656) hl0 rfl rfl rfl ci_b218_0 cj_b218_0 L_0
  exact e2_from hen ha hcall (e2_cutA_ok (e2_fa (fun al st E h hc => EN_0 al st E h hc) e2_fz)) (hC [28, 50]) (X := e2x_229) ex2_229 0 ck_b218_e
/-! b219 X10_nextAt -/
def as_b219 : List ev_V := [(2, 83, 0), (11, 2147483648, 2147483667), (11, 2147483648, 2147483656), (11, 0, 4294967295)]
def E_b219 : e2_E := [(2147483648, 2147583648, 0, 0), (2147483648, 2147483656, 1, 0), (2147483648, 2147483668, 2, 0)]
def bc194 : ev_C := (10, [(0, 0, 0), (2, 88, 0), (2, 115, 0), (2, 114, 0), (2, 86, 0), (2, 112, 0), (11, 2147483648, 2147483688), (2, 118, 0), (2, 120, 0), (2, 131, 0), (2, 91, 0), (1, 2, 4294967296), (2, 123, 0), (11, 2147483648, 2147483649), (11, 2147483648, 2147485248), (2, 87, 0), (2, 84, 0), (2, 122, 0), (2, 100, 0), (2, 132, 0), (11, 2147483648, 2147483668), (11, 2147483648, 2147485248), (1, 0, 4294967296), (11, 2147483648, 2147483653), (11, 2147483648, 2147485248), (2, 93, 0), (2, 104, 0), (11, 2147483648, 2147483678), (2, 89, 0), (2, 92, 0), (2, 119, 0), (2, 90, 0), (2, 94, 0), (2, 103, 0), (11, 2147483648, 2147483688), (11, 2147483648, 2147549184), (11, 0, 4294967295), (11, 2147483648, 2147485249), (11, 2147483648, 2147483653), (11, 2147483648, 2147483668), (2, 85, 0), (11, 0, 4294967295), (5, 0, 0), (2, 95, 0), (2, 96, 0), (2, 97, 0), (2, 98, 0), (2, 99, 0), (2, 101, 0), (2, 102, 0), (2, 105, 0), (2, 106, 0), (2, 107, 0), (2, 108, 0), (2, 109, 0), (2, 110, 0), (2, 111, 0), (11, 2147483648, 2147484768), (11, 2147482048, 2147483655), (11, 2147483648, 2147483738), (11, 2147483648, 2147483678), (11, 0, 4294967295), (11, 0, 4294967295), (11, 0, 4294967295), (11, 0, 4294967295), (11, 0, 4294967295), (2, 113, 0), (2, 116, 0), (2, 117, 0), (2, 121, 0), (11, 0, 4294967295), (11, 0, 4294967295), (2, 124, 0), (2, 125, 0), (11, 0, 4294967295), (2, 126, 0), (2, 127, 0), (2, 128, 0), (2, 129, 0), (2, 130, 0)])
def bn1359 : e2_Q1 := (bc194, bc3)
def bn1360 : e2_Q2 := (bn196, bn1359)
def bn1361 : e2_Q3 := (bn1360, bn1352)
def bn1362 : e2_Q4 := (bn195, bn1361)
def bn1363 : e2_Q5 := (bn1362, bn289)
def bn1364 : e2_Q6 := (bn1363, bn250)
def bn1365 : e2_Q7 := (bn1351, bn1364)
def bn1366 : e2_Q8 := (bn1350, bn1365)
noncomputable def f_b219 : ev_H := (bn1366 : e2_Q8)
noncomputable def q_b219_0 : ev_H := (bn1366 : e2_Q8)
noncomputable def rs_b219 : e2_Rs := [((12, 9, 2147483647), q_b219_0)]
noncomputable def s_b219 : e2_Sm := (231, as_b219, E_b219, f_b219, rs_b219)
noncomputable def S_b219 : List e2_Sm := []
noncomputable def I_b219 : List e2_In := [(215, 2, e2x_215), (216, 1, e2x_216), (217, 1, e2x_217), (225, 5, e2x_225), (226, 3, e2x_226), (227, 2, e2x_227)]
set_option maxRecDepth 1000000 in
theorem co_b219 : e2_okSB E_b219.length as_b219 f_b219 rs_b219 = true := by decide +kernel
def al_b219_0 : List ev_V := [(2, 83, 0), (11, 2147483648, 2147483667), (11, 2147483648, 2147483656), (11, 0, 4294967295), (1, 3, 4294967296), (9, 0, 0)]
def E_b219_0 : e2_E := [(2147483648, 2147583648, 0, 0), (2147483648, 2147483656, 1, 0), (2147483648, 2147483668, 2, 0), (2147483648, 2147483656, 3, 0)]
noncomputable def h_b219_0 : ev_H := (bn1366 : e2_Q8)
noncomputable def cl_b219_e : List (Nat × e2_S) := [(3, e2_cutL (al_b219_0.set 4 (11, 2147483648, 2147483656)) 3 (E_b219_0.take 3) h_b219_0)]
set_option maxRecDepth 1000000 in
theorem ck_b219_e : e2_run (e2_cal S_b219 I_b219 4000 2) (e2_fin rs_b219) e2x_231 (e2_bpL cl_b219_e) (e2_cutA cl_b219_e) 4000 (e2_seek e2x_231 0) (e2_al 6 as_b219) [] E_b219 f_b219 = true := by decide +kernel
noncomputable def cl_b219_0 : List (Nat × e2_S) := [(3, e2_cutL (al_b219_0.set 4 (13, 11, 2147483656)) 3 (E_b219_0.take 3) h_b219_0)]
set_option maxRecDepth 1000000 in
theorem ck_b219_0 : e2_runM (e2_cal S_b219 I_b219 4000 2) (e2_fin rs_b219) e2x_231 (e2_bpL cl_b219_0) (e2_cutA cl_b219_0) 4000 (e2_seek e2x_231 3) al_b219_0 [] E_b219_0 h_b219_0 = true := by decide +kernel
set_option maxRecDepth 1000000 in
theorem ci_b219_0 : e2_idl 3 (al_b219_0.set 4 (9, 0, 0)) = true := by decide +kernel
set_option maxRecDepth 1000000 in
theorem cj_b219_0 : e2_idh 3 8 h_b219_0 = true := by decide +kernel
theorem cs_b219 (hen : en_ok) (l : Launch) : e2_smOk l 3 s_b219 := by
  refine e2_conG (H := 0) (n := 2) (C := evd_231) (S := S_b219) (I := I_b219) (fuel := 4000) hen ei_231 e2_fz (e2_fa ein_215 (e2_fa ein_216 (e2_fa ein_217 (e2_fa ein_225 (e2_fa ein_226 (e2_fa ein_227 e2_fz)))))) (by decide) co_b219 fun M d _ hC hcall p e R s m args below meth c Q D cA A ads r0 ha hl0 => ?_
  have L_0 : e2_gdM M p l e R s m args below meth c Q D cA A ads r0 3 al_b219_0 [] E_b219_0 h_b219_0 := by
    refine e2_indL (u := 3) (j := 4) (lo := 2147483648) (hi := 2147483656) (b := 3) (dd := 0) hl0 (by decide) rfl rfl (Or.inr ⟨rfl, rfl⟩) rfl ci_b219_0 cj_b219_0 ?_
    intro r_0 k_0 hk_0 hp_0 hs_0 hn_0
    have hl_0 : r_0.length ≤ 4 := hs_0.len rfl
    have ha_0 := ha.ext hp_0
    exact e2_fromM hen ha_0 hcall (e2_cutA_ok (e2_fa (fun al st E h hc => hn_0 al st E h hc) e2_fz)) (hC [3, 25]) (X := e2x_231) ex2_231 3 ck_b219_0
  have EN_0 := e2_entL (u := 3) (j := 4) (lo := 2147483648) (hi := 2147483656) hl0 rfl rfl rfl ci_b219_0 cj_b219_0 L_0
  exact e2_from hen ha hcall (e2_cutA_ok (e2_fa (fun al st E h hc => EN_0 al st E h hc) e2_fz)) (hC [3, 25]) (X := e2x_231) ex2_231 0 ck_b219_e
/-! b220 X10_read -/
def as_b220 : List ev_V := [(2, 83, 0), (11, 0, 4294967295)]
def E_b220 : e2_E := [(2147483648, 2147583648, 0, 0), (2147483648, 2147483648, 1, 0)]
def bc195 : ev_C := (54, [(0, 20, 0), (11, 2147483648, 2147483655)])
def bn1367 : e2_Q1 := (bc195, bc3)
def bn1368 : e2_Q2 := (bn41, bn1367)
def bn1369 : e2_Q3 := (bn300, bn1368)
def bn1370 : e2_Q4 := (bn357, bn1369)
def bn1371 : e2_Q5 := (bn1370, bn265)
def bn1372 : e2_Q6 := (bn1342, bn1371)
def bn1373 : e2_Q7 := (bn1372, bn1349)
def bc196 : ev_C := (50, [(11, 2147483648, 2147483654), (11, 2147483648, 2147483654), (11, 2147483648, 2147483654), (11, 2147483648, 2147483654), (11, 2147483648, 2147483654), (11, 2147483648, 2147483654), (11, 2147483648, 2147483654), (11, 2147483648, 2147483654), (11, 2147483648, 2147483654), (11, 2147483648, 2147483654), (11, 2147483648, 2147483654), (11, 2147483648, 2147483654), (11, 2147483648, 2147483654), (11, 2147483648, 2147483654), (11, 2147483648, 2147483654), (11, 2147483648, 2147483654)])
def bn1374 : e2_Q1 := (bc196, bc3)
def bn1375 : e2_Q2 := (bn130, bn1374)
def bn1376 : e2_Q3 := (bn129, bn1375)
def bn1377 : e2_Q4 := (bn1376, bn1335)
def bn1378 : e2_Q5 := (bn1377, bn156)
def bc197 : ev_C := (54, [(0, 20, 0), (11, 2147483648, 2147483667)])
def bn1379 : e2_Q1 := (bc197, bc3)
def bn1380 : e2_Q2 := (bn168, bn1379)
def bn1381 : e2_Q3 := (bn316, bn1380)
def bn1382 : e2_Q4 := (bn164, bn1381)
def bn1383 : e2_Q5 := (bn1382, bn283)
def bn1384 : e2_Q6 := (bn1378, bn1383)
def bn1385 : e2_Q7 := (bn1384, bn1356)
def bn1386 : e2_Q8 := (bn1373, bn1385)
noncomputable def f_b220 : ev_H := (bn1386 : e2_Q8)
def bc198 : ev_C := (10, [(0, 0, 0), (2, 88, 0), (2, 115, 0), (2, 114, 0), (2, 86, 0), (2, 112, 0), (11, 2147483648, 2147483688), (2, 118, 0), (2, 120, 0), (2, 131, 0), (2, 91, 0), (0, 0, 0), (2, 123, 0), (11, 2147483648, 2147483649), (11, 2147483648, 2147485248), (2, 87, 0), (2, 84, 0), (2, 122, 0), (2, 100, 0), (2, 132, 0), (11, 2147483648, 2147483668), (11, 2147483648, 2147485248), (1, 0, 4294967296), (11, 2147483648, 2147483653), (11, 2147483648, 2147485248), (2, 93, 0), (2, 104, 0), (11, 2147483648, 2147483678), (2, 89, 0), (2, 92, 0), (2, 119, 0), (2, 90, 0), (2, 94, 0), (2, 103, 0), (11, 2147483648, 2147483688), (11, 2147483648, 2147549184), (11, 0, 4294967295), (11, 2147483648, 2147485249), (11, 2147483648, 2147483653), (11, 2147483648, 2147483668), (2, 85, 0), (11, 0, 4294967295), (5, 0, 0), (2, 95, 0), (2, 96, 0), (2, 97, 0), (2, 98, 0), (2, 99, 0), (2, 101, 0), (2, 102, 0), (2, 105, 0), (2, 106, 0), (2, 107, 0), (2, 108, 0), (2, 109, 0), (2, 110, 0), (2, 111, 0), (11, 2147483648, 2147484768), (11, 2147482048, 2147483655), (11, 2147483648, 2147483738), (11, 2147483648, 2147483678), (11, 0, 4294967295), (11, 0, 4294967295), (11, 0, 4294967295), (11, 0, 4294967295), (11, 0, 4294967295), (2, 113, 0), (2, 116, 0), (2, 117, 0), (2, 121, 0), (11, 0, 4294967295), (11, 0, 4294967295), (2, 124, 0), (2, 125, 0), (11, 0, 4294967295), (2, 126, 0), (2, 127, 0), (2, 128, 0), (2, 129, 0), (2, 130, 0)])
def bn1387 : e2_Q1 := (bc198, bc3)
def bn1388 : e2_Q2 := (bn196, bn1387)
def bn1389 : e2_Q3 := (bn1388, bn1352)
def bn1390 : e2_Q4 := (bn195, bn1389)
def bn1391 : e2_Q5 := (bn1390, bn289)
def bn1392 : e2_Q6 := (bn1391, bn250)
def bn1393 : e2_Q7 := (bn1384, bn1392)
def bn1394 : e2_Q8 := (bn1373, bn1393)
noncomputable def q_b220_0 : ev_H := (bn1394 : e2_Q8)
noncomputable def rs_b220 : e2_Rs := [((11, 2147483647, 2147483648), q_b220_0)]
noncomputable def s_b220 : e2_Sm := (230, as_b220, E_b220, f_b220, rs_b220)
noncomputable def S_b220 : List e2_Sm := [s_b218]
noncomputable def I_b220 : List e2_In := [(216, 1, e2x_216), (217, 1, e2x_217), (227, 2, e2x_227)]
noncomputable def Eb_b219 : e2_E := [(2147483648, 2147583648, 0, 0), (2147483648, 2147483656, 1, 0)]
set_option maxRecDepth 1000000 in
theorem cog_b219 : e2_okGB 2 83 11 as_b219 f_b219 rs_b219 = true := by decide +kernel
set_option maxRecDepth 1000000 in
theorem co_b220 : e2_okSB E_b220.length as_b220 f_b220 rs_b220 = true := by decide +kernel
def al_b220_21 : List ev_V := [(2, 83, 0), (11, 0, 4294967295), (1, 2, 4294967296), (9, 0, 0), (9, 0, 0)]
def E_b220_21 : e2_E := [(2147483648, 2147583648, 0, 0), (2147483648, 2147483648, 1, 0), (2147483648, 2147483657, 2, 0)]
noncomputable def h_b220_21 : ev_H := (bn1386 : e2_Q8)
def al_b220_22 : List ev_V := [(2, 83, 0), (11, 0, 4294967295), (1, 2, 4294967296), (9, 0, 0), (9, 0, 0)]
def E_b220_22 : e2_E := [(2147483648, 2147583648, 0, 0), (2147483648, 2147483648, 1, 0), (2147483647, 2147483667, 2, 0)]
noncomputable def h_b220_22 : ev_H := (bn1386 : e2_Q8)
def al_b220_23 : List ev_V := [(2, 83, 0), (11, 0, 4294967295), (1, 2, 4294967296), (1, 3, 4294967296), (9, 0, 0)]
def E_b220_23 : e2_E := [(2147483648, 2147583648, 0, 0), (2147483648, 2147483648, 1, 0), (2147483648, 2147483667, 2, 0), (2147483648, 2147483657, 3, 0)]
noncomputable def h_b220_23 : ev_H := (bn1386 : e2_Q8)
noncomputable def h_b220_0 : ev_H := (bn1394 : e2_Q8)
noncomputable def h_b220_1 : ev_H := (bn1394 : e2_Q8)
noncomputable def h_b220_2 : ev_H := (bn1394 : e2_Q8)
noncomputable def h_b220_3 : ev_H := (bn1394 : e2_Q8)
noncomputable def h_b220_4 : ev_H := (bn1394 : e2_Q8)
noncomputable def h_b220_5 : ev_H := (bn1394 : e2_Q8)
noncomputable def h_b220_6 : ev_H := (bn1394 : e2_Q8)
noncomputable def h_b220_7 : ev_H := (bn1394 : e2_Q8)
noncomputable def h_b220_8 : ev_H := (bn1394 : e2_Q8)
noncomputable def h_b220_9 : ev_H := (bn1394 : e2_Q8)
noncomputable def h_b220_10 : ev_H := (bn1394 : e2_Q8)
noncomputable def h_b220_11 : ev_H := (bn1394 : e2_Q8)
noncomputable def h_b220_12 : ev_H := (bn1394 : e2_Q8)
noncomputable def h_b220_13 : ev_H := (bn1394 : e2_Q8)
noncomputable def h_b220_14 : ev_H := (bn1394 : e2_Q8)
noncomputable def h_b220_15 : ev_H := (bn1394 : e2_Q8)
noncomputable def h_b220_16 : ev_H := (bn1394 : e2_Q8)
noncomputable def h_b220_17 : ev_H := (bn1394 : e2_Q8)
noncomputable def h_b220_18 : ev_H := (bn1394 : e2_Q8)
noncomputable def h_b220_19 : ev_H := (bn1394 : e2_Q8)
noncomputable def h_b220_20 : ev_H := (bn1394 : e2_Q8)
noncomputable def cu_b220_120 : List e2_Cu := [([(2, 83, 0), (11, 0, 4294967295), (0, 0, 0), (0, 8, 0), (9, 0, 0)], [(2147483648, 2147583648, 0, 0), (2147483648, 2147483648, 1, 0)], h_b220_0),
  ([(2, 83, 0), (11, 0, 4294967295), (0, 1, 0), (0, 8, 0), (0, 4294967295, 0)], [(2147483648, 2147583648, 0, 0), (2147483648, 2147483648, 1, 0)], h_b220_1),
  ([(2, 83, 0), (11, 0, 4294967295), (0, 2, 0), (0, 8, 0), (0, 4294967295, 0)], [(2147483648, 2147583648, 0, 0), (2147483648, 2147483648, 1, 0)], h_b220_2),
  ([(2, 83, 0), (11, 0, 4294967295), (0, 3, 0), (0, 8, 0), (0, 4294967295, 0)], [(2147483648, 2147583648, 0, 0), (2147483648, 2147483648, 1, 0)], h_b220_3),
  ([(2, 83, 0), (11, 0, 4294967295), (0, 4, 0), (0, 8, 0), (0, 4294967295, 0)], [(2147483648, 2147583648, 0, 0), (2147483648, 2147483648, 1, 0)], h_b220_4),
  ([(2, 83, 0), (11, 0, 4294967295), (0, 5, 0), (0, 8, 0), (0, 4294967295, 0)], [(2147483648, 2147583648, 0, 0), (2147483648, 2147483648, 1, 0)], h_b220_5),
  ([(2, 83, 0), (11, 0, 4294967295), (0, 6, 0), (0, 8, 0), (0, 4294967295, 0)], [(2147483648, 2147583648, 0, 0), (2147483648, 2147483648, 1, 0)], h_b220_6),
  ([(2, 83, 0), (11, 0, 4294967295), (0, 7, 0), (0, 8, 0), (0, 4294967295, 0)], [(2147483648, 2147583648, 0, 0), (2147483648, 2147483648, 1, 0)], h_b220_7),
  ([(2, 83, 0), (11, 0, 4294967295), (0, 8, 0), (0, 8, 0), (0, 4294967295, 0)], [(2147483648, 2147583648, 0, 0), (2147483648, 2147483648, 1, 0)], h_b220_8),
  ([(2, 83, 0), (11, 0, 4294967295), (0, 9, 0), (0, 8, 0), (0, 4294967295, 0)], [(2147483648, 2147583648, 0, 0), (2147483648, 2147483648, 1, 0)], h_b220_9),
  ([(2, 83, 0), (11, 0, 4294967295), (0, 10, 0), (0, 8, 0), (0, 4294967295, 0)], [(2147483648, 2147583648, 0, 0), (2147483648, 2147483648, 1, 0)], h_b220_10),
  ([(2, 83, 0), (11, 0, 4294967295), (0, 11, 0), (0, 8, 0), (0, 4294967295, 0)], [(2147483648, 2147583648, 0, 0), (2147483648, 2147483648, 1, 0)], h_b220_11),
  ([(2, 83, 0), (11, 0, 4294967295), (0, 12, 0), (0, 8, 0), (0, 4294967295, 0)], [(2147483648, 2147583648, 0, 0), (2147483648, 2147483648, 1, 0)], h_b220_12),
  ([(2, 83, 0), (11, 0, 4294967295), (0, 13, 0), (0, 8, 0), (0, 4294967295, 0)], [(2147483648, 2147583648, 0, 0), (2147483648, 2147483648, 1, 0)], h_b220_13),
  ([(2, 83, 0), (11, 0, 4294967295), (0, 14, 0), (0, 8, 0), (0, 4294967295, 0)], [(2147483648, 2147583648, 0, 0), (2147483648, 2147483648, 1, 0)], h_b220_14),
  ([(2, 83, 0), (11, 0, 4294967295), (0, 15, 0), (0, 8, 0), (0, 4294967295, 0)], [(2147483648, 2147583648, 0, 0), (2147483648, 2147483648, 1, 0)], h_b220_15),
  ([(2, 83, 0), (11, 0, 4294967295), (0, 16, 0), (0, 8, 0), (0, 4294967295, 0)], [(2147483648, 2147583648, 0, 0), (2147483648, 2147483648, 1, 0)], h_b220_16),
  ([(2, 83, 0), (11, 0, 4294967295), (0, 17, 0), (0, 8, 0), (0, 4294967295, 0)], [(2147483648, 2147583648, 0, 0), (2147483648, 2147483648, 1, 0)], h_b220_17),
  ([(2, 83, 0), (11, 0, 4294967295), (0, 18, 0), (0, 8, 0), (0, 4294967295, 0)], [(2147483648, 2147583648, 0, 0), (2147483648, 2147483648, 1, 0)], h_b220_18),
  ([(2, 83, 0), (11, 0, 4294967295), (0, 19, 0), (0, 8, 0), (0, 4294967295, 0)], [(2147483648, 2147583648, 0, 0), (2147483648, 2147483648, 1, 0)], h_b220_19),
  ([(2, 83, 0), (11, 0, 4294967295), (0, 20, 0), (0, 8, 0), (0, 4294967295, 0)], [(2147483648, 2147583648, 0, 0), (2147483648, 2147483648, 1, 0)], h_b220_20)]
noncomputable def cl_b220_e : List (Nat × e2_S) := [(2, e2_cutL (al_b220_21.set 2 (11, 2147483648, 2147483657)) 2 (E_b220_21.take 2) h_b220_21)]
set_option maxRecDepth 1000000 in
theorem ck_b220_e : e2_run (e2_orG 231 83 11 2 2147483648 2147483668 as_b219 Eb_b219 f_b219 rs_b219 (e2_cal S_b220 I_b220 4000 1)) (e2_fin rs_b220) e2x_230 (e2_bpL cl_b220_e) (e2_cutA cl_b220_e) 4000 (e2_seek e2x_230 0) (e2_al 5 as_b220) [] E_b220 f_b220 = true := by decide +kernel
noncomputable def cl_b220_21 : List (Nat × e2_S) := [(2, e2_cutL (al_b220_21.set 2 (13, 10, 2147483657)) 2 (E_b220_21.take 2) h_b220_21),
  (49, e2_cutL (al_b220_22.set 2 (11, 2147483647, 2147483667)) 2 (E_b220_22.take 2) h_b220_22)]
set_option maxRecDepth 1000000 in
theorem ck_b220_21 : e2_runM (e2_orG 231 83 11 2 2147483648 2147483668 as_b219 Eb_b219 f_b219 rs_b219 (e2_cal S_b220 I_b220 4000 1)) (e2_fin rs_b220) e2x_230 (e2_bpL cl_b220_21) (e2_cutA cl_b220_21) 4000 (e2_seek e2x_230 2) al_b220_21 [] E_b220_21 h_b220_21 = true := by decide +kernel
set_option maxRecDepth 1000000 in
theorem ci_b220_21 : e2_idl 2 (al_b220_21.set 2 (9, 0, 0)) = true := by decide +kernel
set_option maxRecDepth 1000000 in
theorem cj_b220_21 : e2_idh 2 8 h_b220_21 = true := by decide +kernel
noncomputable def cl_b220_22 : List (Nat × e2_S) := [(120, e2_cutS cu_b220_120),
  (55, e2_cutL (al_b220_23.set 3 (11, 2147483648, 2147483657)) 3 (E_b220_23.take 3) h_b220_23)]
set_option maxRecDepth 1000000 in
theorem ck_b220_22 : e2_runM (e2_orG 231 83 11 2 2147483648 2147483668 as_b219 Eb_b219 f_b219 rs_b219 (e2_cal S_b220 I_b220 4000 1)) (e2_fin rs_b220) e2x_230 (e2_bpL cl_b220_22) (e2_cutA cl_b220_22) 4000 (e2_seek e2x_230 49) al_b220_22 [] E_b220_22 h_b220_22 = true := by decide +kernel
set_option maxRecDepth 1000000 in
theorem ci_b220_22 : e2_idl 2 (al_b220_22.set 2 (9, 0, 0)) = true := by decide +kernel
set_option maxRecDepth 1000000 in
theorem cj_b220_22 : e2_idh 2 8 h_b220_22 = true := by decide +kernel
noncomputable def cl_b220_23 : List (Nat × e2_S) := [(49, e2_cutL (al_b220_22.set 2 (12, 10, 2147483647)) 2 (E_b220_22.take 2) h_b220_22),
  (55, e2_cutL (al_b220_23.set 3 (13, 11, 2147483657)) 3 (E_b220_23.take 3) h_b220_23)]
set_option maxRecDepth 1000000 in
theorem ck_b220_23 : e2_runM (e2_orG 231 83 11 2 2147483648 2147483668 as_b219 Eb_b219 f_b219 rs_b219 (e2_cal S_b220 I_b220 4000 1)) (e2_fin rs_b220) e2x_230 (e2_bpL cl_b220_23) (e2_cutA cl_b220_23) 4000 (e2_seek e2x_230 55) al_b220_23 [] E_b220_23 h_b220_23 = true := by decide +kernel
set_option maxRecDepth 1000000 in
theorem ci_b220_23 : e2_idl 3 (al_b220_23.set 3 (9, 0, 0)) = true := by decide +kernel
set_option maxRecDepth 1000000 in
theorem cj_b220_23 : e2_idh 3 8 h_b220_23 = true := by decide +kernel
set_option maxRecDepth 1000000 in
theorem ck_b220_u120 : e2_cutsB (e2_orG 231 83 11 2 2147483648 2147483668 as_b219 Eb_b219 f_b219 rs_b219 (e2_cal S_b220 I_b220 4000 1)) (e2_fin rs_b220) e2x_230 120 4000 cu_b220_120 = true := by decide +kernel
theorem cs_b220 (hen : en_ok) (l : Launch) : e2_smOk l 5 s_b220 := by
  refine e2_conC (H := 4) (C := evd_230) ei_230 (fun d hd => (e2_orG_ok (e2_cal_ok hen (e2_fa (cs_b218 hen l) e2_fz) (e2_fa ein_216 (e2_fa ein_217 (e2_fa ein_227 e2_fz))) 1 d (by omega)) rfl (by decide) (fun M hM => (cs_b219 hen l).2 M hM d (by omega)) (e2_okGB_ok cog_b219))) (by decide) co_b220 fun M d _ hC hcall p e R s m args below meth c Q D cA A ads r0 ha hl0 => ?_
  have EN_120 := e2_cutS_ok (bp := 120) (cuts := cu_b220_120) (e2_cuts_len hl0 (by decide +kernel)) (e2_cuts_ok hen ha hcall (hC [192, 195]) (X := e2x_230) ex2_230 (e2_cuts_len hl0 (by decide +kernel)) ck_b220_u120)
  have L_22 : e2_gdM M p l e R s m args below meth c Q D cA A ads r0 49 al_b220_22 [] E_b220_22 h_b220_22 := by
    refine e2_indD (u := 2) (j := 2) (lo := 2147483647) (hi := 2147483667) hl0 (by decide) rfl rfl rfl ci_b220_22 cj_b220_22 ?_
    intro r_22 k_22 hk_22 hp_22 hs_22 hn_22
    have hl_22 : r_22.length ≤ 3 := hs_22.len rfl
    have ha_22 := ha.ext hp_22
    have L_23 : e2_gdM M p l e R s m args below meth c Q D cA A ads r_22 55 al_b220_23 [] E_b220_23 h_b220_23 := by
      refine e2_indL (u := 3) (j := 3) (lo := 2147483648) (hi := 2147483657) (b := 3) (dd := 0) hl_22 (by decide) rfl rfl (Or.inr ⟨rfl, rfl⟩) rfl ci_b220_23 cj_b220_23 ?_
      intro r_23 k_23 hk_23 hp_23 hs_23 hn_23
      have hl_23 : r_23.length ≤ 4 := hs_23.len rfl
      have ha_23 := ha_22.ext hp_23
      exact e2_fromM hen ha_23 hcall (e2_cutA_ok (e2_fa (fun al st E h hc => (hn_22 al st E h hc).ext hp_23) (e2_fa (fun al st E h hc => hn_23 al st E h hc) e2_fz))) (hC [192, 195]) (X := e2x_230) ex2_230 55 ck_b220_23
    have EN_23 := e2_entL (u := 3) (j := 3) (lo := 2147483648) (hi := 2147483657) hl_22 rfl rfl rfl ci_b220_23 cj_b220_23 L_23
    exact e2_fromM hen ha_22 hcall (e2_cutA_ok (e2_fa (fun al st E h hc => (EN_120 al st E h hc).ext hp_22) (e2_fa (fun al st E h hc => EN_23 al st E h hc) e2_fz))) (hC [192, 195]) (X := e2x_230) ex2_230 49 ck_b220_22
  have EN_22 := e2_entL (u := 2) (j := 2) (lo := 2147483647) (hi := 2147483667) hl0 rfl rfl rfl ci_b220_22 cj_b220_22 L_22
  have L_21 : e2_gdM M p l e R s m args below meth c Q D cA A ads r0 2 al_b220_21 [] E_b220_21 h_b220_21 := by
    refine e2_indL (u := 2) (j := 2) (lo := 2147483648) (hi := 2147483657) (b := 2) (dd := 0) hl0 (by decide) rfl rfl (Or.inr ⟨rfl, rfl⟩) rfl ci_b220_21 cj_b220_21 ?_
    intro r_21 k_21 hk_21 hp_21 hs_21 hn_21
    have hl_21 : r_21.length ≤ 3 := hs_21.len rfl
    have ha_21 := ha.ext hp_21
    exact e2_fromM hen ha_21 hcall (e2_cutA_ok (e2_fa (fun al st E h hc => hn_21 al st E h hc) (e2_fa (fun al st E h hc => (EN_22 al st E h hc).ext hp_21) e2_fz))) (hC [192, 195]) (X := e2x_230) ex2_230 2 ck_b220_21
  have EN_21 := e2_entL (u := 2) (j := 2) (lo := 2147483648) (hi := 2147483657) hl0 rfl rfl rfl ci_b220_21 cj_b220_21 L_21
  exact e2_from hen ha hcall (e2_cutA_ok (e2_fa (fun al st E h hc => EN_21 al st E h hc) e2_fz)) (hC [192, 195]) (X := e2x_230) ex2_230 0 ck_b220_e
/-! b221 X10_read -/
def as_b221 : List ev_V := [(2, 83, 0), (11, 0, 4294967295)]
def E_b221 : e2_E := [(2147483648, 2147583648, 0, 0), (2147483649, 2147483649, 1, 0)]
def bc199 : ev_C := (50, [(11, 2147483649, 2147483654), (11, 2147483648, 2147483654), (11, 2147483648, 2147483654), (11, 2147483648, 2147483654), (11, 2147483648, 2147483654), (11, 2147483648, 2147483654), (11, 2147483648, 2147483654), (11, 2147483648, 2147483654), (11, 2147483648, 2147483654), (11, 2147483648, 2147483654), (11, 2147483648, 2147483654), (11, 2147483648, 2147483654), (11, 2147483648, 2147483654), (11, 2147483648, 2147483654), (11, 2147483648, 2147483654), (11, 2147483648, 2147483654)])
def bn1395 : e2_Q1 := (bc199, bc3)
def bn1396 : e2_Q2 := (bn130, bn1395)
def bn1397 : e2_Q3 := (bn129, bn1396)
def bn1398 : e2_Q4 := (bn1397, bn1335)
def bn1399 : e2_Q5 := (bn1398, bn156)
def bn1400 : e2_Q6 := (bn1399, bn1383)
def bn1401 : e2_Q7 := (bn1400, bn1356)
def bn1402 : e2_Q8 := (bn1373, bn1401)
noncomputable def f_b221 : ev_H := (bn1402 : e2_Q8)
noncomputable def q_b221_0 : ev_H := (bn1402 : e2_Q8)
noncomputable def rs_b221 : e2_Rs := [((11, 2147483647, 2147483668), q_b221_0)]
noncomputable def s_b221 : e2_Sm := (230, as_b221, E_b221, f_b221, rs_b221)
noncomputable def S_b221 : List e2_Sm := [s_b218]
noncomputable def I_b221 : List e2_In := [(216, 1, e2x_216), (217, 1, e2x_217), (227, 2, e2x_227)]
set_option maxRecDepth 1000000 in
theorem co_b221 : e2_okSB E_b221.length as_b221 f_b221 rs_b221 = true := by decide +kernel
def al_b221_26 : List ev_V := [(2, 83, 0), (11, 0, 4294967295), (1, 2, 4294967296), (9, 0, 0), (9, 0, 0)]
def E_b221_26 : e2_E := [(2147483648, 2147583648, 0, 0), (2147483649, 2147483649, 1, 0), (2147483648, 2147483657, 2, 0)]
noncomputable def h_b221_26 : ev_H := (bn1402 : e2_Q8)
def al_b221_27 : List ev_V := [(2, 83, 0), (11, 0, 4294967295), (1, 2, 4294967296), (9, 0, 0), (9, 0, 0)]
def E_b221_27 : e2_E := [(2147483648, 2147583648, 0, 0), (2147483649, 2147483649, 1, 0), (2147483647, 2147483667, 2, 0)]
noncomputable def h_b221_27 : ev_H := (bn1402 : e2_Q8)
def al_b221_28 : List ev_V := [(2, 83, 0), (11, 0, 4294967295), (1, 2, 4294967296), (1, 3, 4294967296), (9, 0, 0)]
def E_b221_28 : e2_E := [(2147483648, 2147583648, 0, 0), (2147483649, 2147483649, 1, 0), (2147483648, 2147483667, 2, 0), (2147483648, 2147483657, 3, 0)]
noncomputable def h_b221_28 : ev_H := (bn1402 : e2_Q8)
def bn1403 : e2_Q7 := (bn1400, bn1392)
def bn1404 : e2_Q8 := (bn1373, bn1403)
noncomputable def h_b221_0 : ev_H := (bn1404 : e2_Q8)
def bc200 : ev_C := (10, [(0, 0, 0), (2, 88, 0), (2, 115, 0), (2, 114, 0), (2, 86, 0), (2, 112, 0), (11, 2147483648, 2147483688), (2, 118, 0), (2, 120, 0), (2, 131, 0), (2, 91, 0), (11, 2147483648, 2147483649), (2, 123, 0), (11, 2147483648, 2147483649), (11, 2147483648, 2147485248), (2, 87, 0), (2, 84, 0), (2, 122, 0), (2, 100, 0), (2, 132, 0), (11, 2147483648, 2147483668), (11, 2147483648, 2147485248), (1, 0, 4294967296), (11, 2147483648, 2147483653), (11, 2147483648, 2147485248), (2, 93, 0), (2, 104, 0), (11, 2147483648, 2147483678), (2, 89, 0), (2, 92, 0), (2, 119, 0), (2, 90, 0), (2, 94, 0), (2, 103, 0), (11, 2147483648, 2147483688), (11, 2147483648, 2147549184), (11, 0, 4294967295), (11, 2147483648, 2147485249), (11, 2147483648, 2147483653), (11, 2147483648, 2147483668), (2, 85, 0), (11, 0, 4294967295), (5, 0, 0), (2, 95, 0), (2, 96, 0), (2, 97, 0), (2, 98, 0), (2, 99, 0), (2, 101, 0), (2, 102, 0), (2, 105, 0), (2, 106, 0), (2, 107, 0), (2, 108, 0), (2, 109, 0), (2, 110, 0), (2, 111, 0), (11, 2147483648, 2147484768), (11, 2147482048, 2147483655), (11, 2147483648, 2147483738), (11, 2147483648, 2147483678), (11, 0, 4294967295), (11, 0, 4294967295), (11, 0, 4294967295), (11, 0, 4294967295), (11, 0, 4294967295), (2, 113, 0), (2, 116, 0), (2, 117, 0), (2, 121, 0), (11, 0, 4294967295), (11, 0, 4294967295), (2, 124, 0), (2, 125, 0), (11, 0, 4294967295), (2, 126, 0), (2, 127, 0), (2, 128, 0), (2, 129, 0), (2, 130, 0)])
def bn1405 : e2_Q1 := (bc200, bc3)
def bn1406 : e2_Q2 := (bn196, bn1405)
def bn1407 : e2_Q3 := (bn1406, bn1352)
def bn1408 : e2_Q4 := (bn195, bn1407)
def bn1409 : e2_Q5 := (bn1408, bn289)
def bn1410 : e2_Q6 := (bn1409, bn250)
def bn1411 : e2_Q7 := (bn1400, bn1410)
def bn1412 : e2_Q8 := (bn1373, bn1411)
noncomputable def h_b221_1 : ev_H := (bn1412 : e2_Q8)
def bc201 : ev_C := (10, [(0, 0, 0), (2, 88, 0), (2, 115, 0), (2, 114, 0), (2, 86, 0), (2, 112, 0), (11, 2147483648, 2147483688), (2, 118, 0), (2, 120, 0), (2, 131, 0), (2, 91, 0), (11, 2147483648, 2147483650), (2, 123, 0), (11, 2147483648, 2147483649), (11, 2147483648, 2147485248), (2, 87, 0), (2, 84, 0), (2, 122, 0), (2, 100, 0), (2, 132, 0), (11, 2147483648, 2147483668), (11, 2147483648, 2147485248), (1, 0, 4294967296), (11, 2147483648, 2147483653), (11, 2147483648, 2147485248), (2, 93, 0), (2, 104, 0), (11, 2147483648, 2147483678), (2, 89, 0), (2, 92, 0), (2, 119, 0), (2, 90, 0), (2, 94, 0), (2, 103, 0), (11, 2147483648, 2147483688), (11, 2147483648, 2147549184), (11, 0, 4294967295), (11, 2147483648, 2147485249), (11, 2147483648, 2147483653), (11, 2147483648, 2147483668), (2, 85, 0), (11, 0, 4294967295), (5, 0, 0), (2, 95, 0), (2, 96, 0), (2, 97, 0), (2, 98, 0), (2, 99, 0), (2, 101, 0), (2, 102, 0), (2, 105, 0), (2, 106, 0), (2, 107, 0), (2, 108, 0), (2, 109, 0), (2, 110, 0), (2, 111, 0), (11, 2147483648, 2147484768), (11, 2147482048, 2147483655), (11, 2147483648, 2147483738), (11, 2147483648, 2147483678), (11, 0, 4294967295), (11, 0, 4294967295), (11, 0, 4294967295), (11, 0, 4294967295), (11, 0, 4294967295), (2, 113, 0), (2, 116, 0), (2, 117, 0), (2, 121, 0), (11, 0, 4294967295), (11, 0, 4294967295), (2, 124, 0), (2, 125, 0), (11, 0, 4294967295), (2, 126, 0), (2, 127, 0), (2, 128, 0), (2, 129, 0), (2, 130, 0)])
def bn1413 : e2_Q1 := (bc201, bc3)
def bn1414 : e2_Q2 := (bn196, bn1413)
def bn1415 : e2_Q3 := (bn1414, bn1352)
def bn1416 : e2_Q4 := (bn195, bn1415)
def bn1417 : e2_Q5 := (bn1416, bn289)
def bn1418 : e2_Q6 := (bn1417, bn250)
def bn1419 : e2_Q7 := (bn1400, bn1418)
def bn1420 : e2_Q8 := (bn1373, bn1419)
noncomputable def h_b221_2 : ev_H := (bn1420 : e2_Q8)
def bc202 : ev_C := (10, [(0, 0, 0), (2, 88, 0), (2, 115, 0), (2, 114, 0), (2, 86, 0), (2, 112, 0), (11, 2147483648, 2147483688), (2, 118, 0), (2, 120, 0), (2, 131, 0), (2, 91, 0), (11, 2147483648, 2147483651), (2, 123, 0), (11, 2147483648, 2147483649), (11, 2147483648, 2147485248), (2, 87, 0), (2, 84, 0), (2, 122, 0), (2, 100, 0), (2, 132, 0), (11, 2147483648, 2147483668), (11, 2147483648, 2147485248), (1, 0, 4294967296), (11, 2147483648, 2147483653), (11, 2147483648, 2147485248), (2, 93, 0), (2, 104, 0), (11, 2147483648, 2147483678), (2, 89, 0), (2, 92, 0), (2, 119, 0), (2, 90, 0), (2, 94, 0), (2, 103, 0), (11, 2147483648, 2147483688), (11, 2147483648, 2147549184), (11, 0, 4294967295), (11, 2147483648, 2147485249), (11, 2147483648, 2147483653), (11, 2147483648, 2147483668), (2, 85, 0), (11, 0, 4294967295), (5, 0, 0), (2, 95, 0), (2, 96, 0), (2, 97, 0), (2, 98, 0), (2, 99, 0), (2, 101, 0), (2, 102, 0), (2, 105, 0), (2, 106, 0), (2, 107, 0), (2, 108, 0), (2, 109, 0), (2, 110, 0), (2, 111, 0), (11, 2147483648, 2147484768), (11, 2147482048, 2147483655), (11, 2147483648, 2147483738), (11, 2147483648, 2147483678), (11, 0, 4294967295), (11, 0, 4294967295), (11, 0, 4294967295), (11, 0, 4294967295), (11, 0, 4294967295), (2, 113, 0), (2, 116, 0), (2, 117, 0), (2, 121, 0), (11, 0, 4294967295), (11, 0, 4294967295), (2, 124, 0), (2, 125, 0), (11, 0, 4294967295), (2, 126, 0), (2, 127, 0), (2, 128, 0), (2, 129, 0), (2, 130, 0)])
def bn1421 : e2_Q1 := (bc202, bc3)
def bn1422 : e2_Q2 := (bn196, bn1421)
def bn1423 : e2_Q3 := (bn1422, bn1352)
def bn1424 : e2_Q4 := (bn195, bn1423)
def bn1425 : e2_Q5 := (bn1424, bn289)
def bn1426 : e2_Q6 := (bn1425, bn250)
def bn1427 : e2_Q7 := (bn1400, bn1426)
def bn1428 : e2_Q8 := (bn1373, bn1427)
noncomputable def h_b221_3 : ev_H := (bn1428 : e2_Q8)
def bc203 : ev_C := (10, [(0, 0, 0), (2, 88, 0), (2, 115, 0), (2, 114, 0), (2, 86, 0), (2, 112, 0), (11, 2147483648, 2147483688), (2, 118, 0), (2, 120, 0), (2, 131, 0), (2, 91, 0), (11, 2147483648, 2147483652), (2, 123, 0), (11, 2147483648, 2147483649), (11, 2147483648, 2147485248), (2, 87, 0), (2, 84, 0), (2, 122, 0), (2, 100, 0), (2, 132, 0), (11, 2147483648, 2147483668), (11, 2147483648, 2147485248), (1, 0, 4294967296), (11, 2147483648, 2147483653), (11, 2147483648, 2147485248), (2, 93, 0), (2, 104, 0), (11, 2147483648, 2147483678), (2, 89, 0), (2, 92, 0), (2, 119, 0), (2, 90, 0), (2, 94, 0), (2, 103, 0), (11, 2147483648, 2147483688), (11, 2147483648, 2147549184), (11, 0, 4294967295), (11, 2147483648, 2147485249), (11, 2147483648, 2147483653), (11, 2147483648, 2147483668), (2, 85, 0), (11, 0, 4294967295), (5, 0, 0), (2, 95, 0), (2, 96, 0), (2, 97, 0), (2, 98, 0), (2, 99, 0), (2, 101, 0), (2, 102, 0), (2, 105, 0), (2, 106, 0), (2, 107, 0), (2, 108, 0), (2, 109, 0), (2, 110, 0), (2, 111, 0), (11, 2147483648, 2147484768), (11, 2147482048, 2147483655), (11, 2147483648, 2147483738), (11, 2147483648, 2147483678), (11, 0, 4294967295), (11, 0, 4294967295), (11, 0, 4294967295), (11, 0, 4294967295), (11, 0, 4294967295), (2, 113, 0), (2, 116, 0), (2, 117, 0), (2, 121, 0), (11, 0, 4294967295), (11, 0, 4294967295), (2, 124, 0), (2, 125, 0), (11, 0, 4294967295), (2, 126, 0), (2, 127, 0), (2, 128, 0), (2, 129, 0), (2, 130, 0)])
def bn1429 : e2_Q1 := (bc203, bc3)
def bn1430 : e2_Q2 := (bn196, bn1429)
def bn1431 : e2_Q3 := (bn1430, bn1352)
def bn1432 : e2_Q4 := (bn195, bn1431)
def bn1433 : e2_Q5 := (bn1432, bn289)
def bn1434 : e2_Q6 := (bn1433, bn250)
def bn1435 : e2_Q7 := (bn1400, bn1434)
def bn1436 : e2_Q8 := (bn1373, bn1435)
noncomputable def h_b221_4 : ev_H := (bn1436 : e2_Q8)
def bc204 : ev_C := (10, [(0, 0, 0), (2, 88, 0), (2, 115, 0), (2, 114, 0), (2, 86, 0), (2, 112, 0), (11, 2147483648, 2147483688), (2, 118, 0), (2, 120, 0), (2, 131, 0), (2, 91, 0), (11, 2147483648, 2147483653), (2, 123, 0), (11, 2147483648, 2147483649), (11, 2147483648, 2147485248), (2, 87, 0), (2, 84, 0), (2, 122, 0), (2, 100, 0), (2, 132, 0), (11, 2147483648, 2147483668), (11, 2147483648, 2147485248), (1, 0, 4294967296), (11, 2147483648, 2147483653), (11, 2147483648, 2147485248), (2, 93, 0), (2, 104, 0), (11, 2147483648, 2147483678), (2, 89, 0), (2, 92, 0), (2, 119, 0), (2, 90, 0), (2, 94, 0), (2, 103, 0), (11, 2147483648, 2147483688), (11, 2147483648, 2147549184), (11, 0, 4294967295), (11, 2147483648, 2147485249), (11, 2147483648, 2147483653), (11, 2147483648, 2147483668), (2, 85, 0), (11, 0, 4294967295), (5, 0, 0), (2, 95, 0), (2, 96, 0), (2, 97, 0), (2, 98, 0), (2, 99, 0), (2, 101, 0), (2, 102, 0), (2, 105, 0), (2, 106, 0), (2, 107, 0), (2, 108, 0), (2, 109, 0), (2, 110, 0), (2, 111, 0), (11, 2147483648, 2147484768), (11, 2147482048, 2147483655), (11, 2147483648, 2147483738), (11, 2147483648, 2147483678), (11, 0, 4294967295), (11, 0, 4294967295), (11, 0, 4294967295), (11, 0, 4294967295), (11, 0, 4294967295), (2, 113, 0), (2, 116, 0), (2, 117, 0), (2, 121, 0), (11, 0, 4294967295), (11, 0, 4294967295), (2, 124, 0), (2, 125, 0), (11, 0, 4294967295), (2, 126, 0), (2, 127, 0), (2, 128, 0), (2, 129, 0), (2, 130, 0)])
def bn1437 : e2_Q1 := (bc204, bc3)
def bn1438 : e2_Q2 := (bn196, bn1437)
def bn1439 : e2_Q3 := (bn1438, bn1352)
def bn1440 : e2_Q4 := (bn195, bn1439)
def bn1441 : e2_Q5 := (bn1440, bn289)
def bn1442 : e2_Q6 := (bn1441, bn250)
def bn1443 : e2_Q7 := (bn1400, bn1442)
def bn1444 : e2_Q8 := (bn1373, bn1443)
noncomputable def h_b221_5 : ev_H := (bn1444 : e2_Q8)
def bc205 : ev_C := (10, [(0, 0, 0), (2, 88, 0), (2, 115, 0), (2, 114, 0), (2, 86, 0), (2, 112, 0), (11, 2147483648, 2147483688), (2, 118, 0), (2, 120, 0), (2, 131, 0), (2, 91, 0), (11, 2147483648, 2147483654), (2, 123, 0), (11, 2147483648, 2147483649), (11, 2147483648, 2147485248), (2, 87, 0), (2, 84, 0), (2, 122, 0), (2, 100, 0), (2, 132, 0), (11, 2147483648, 2147483668), (11, 2147483648, 2147485248), (1, 0, 4294967296), (11, 2147483648, 2147483653), (11, 2147483648, 2147485248), (2, 93, 0), (2, 104, 0), (11, 2147483648, 2147483678), (2, 89, 0), (2, 92, 0), (2, 119, 0), (2, 90, 0), (2, 94, 0), (2, 103, 0), (11, 2147483648, 2147483688), (11, 2147483648, 2147549184), (11, 0, 4294967295), (11, 2147483648, 2147485249), (11, 2147483648, 2147483653), (11, 2147483648, 2147483668), (2, 85, 0), (11, 0, 4294967295), (5, 0, 0), (2, 95, 0), (2, 96, 0), (2, 97, 0), (2, 98, 0), (2, 99, 0), (2, 101, 0), (2, 102, 0), (2, 105, 0), (2, 106, 0), (2, 107, 0), (2, 108, 0), (2, 109, 0), (2, 110, 0), (2, 111, 0), (11, 2147483648, 2147484768), (11, 2147482048, 2147483655), (11, 2147483648, 2147483738), (11, 2147483648, 2147483678), (11, 0, 4294967295), (11, 0, 4294967295), (11, 0, 4294967295), (11, 0, 4294967295), (11, 0, 4294967295), (2, 113, 0), (2, 116, 0), (2, 117, 0), (2, 121, 0), (11, 0, 4294967295), (11, 0, 4294967295), (2, 124, 0), (2, 125, 0), (11, 0, 4294967295), (2, 126, 0), (2, 127, 0), (2, 128, 0), (2, 129, 0), (2, 130, 0)])
def bn1445 : e2_Q1 := (bc205, bc3)
def bn1446 : e2_Q2 := (bn196, bn1445)
def bn1447 : e2_Q3 := (bn1446, bn1352)
def bn1448 : e2_Q4 := (bn195, bn1447)
def bn1449 : e2_Q5 := (bn1448, bn289)
def bn1450 : e2_Q6 := (bn1449, bn250)
def bn1451 : e2_Q7 := (bn1400, bn1450)
def bn1452 : e2_Q8 := (bn1373, bn1451)
noncomputable def h_b221_6 : ev_H := (bn1452 : e2_Q8)
def bc206 : ev_C := (10, [(0, 0, 0), (2, 88, 0), (2, 115, 0), (2, 114, 0), (2, 86, 0), (2, 112, 0), (11, 2147483648, 2147483688), (2, 118, 0), (2, 120, 0), (2, 131, 0), (2, 91, 0), (11, 2147483648, 2147483655), (2, 123, 0), (11, 2147483648, 2147483649), (11, 2147483648, 2147485248), (2, 87, 0), (2, 84, 0), (2, 122, 0), (2, 100, 0), (2, 132, 0), (11, 2147483648, 2147483668), (11, 2147483648, 2147485248), (1, 0, 4294967296), (11, 2147483648, 2147483653), (11, 2147483648, 2147485248), (2, 93, 0), (2, 104, 0), (11, 2147483648, 2147483678), (2, 89, 0), (2, 92, 0), (2, 119, 0), (2, 90, 0), (2, 94, 0), (2, 103, 0), (11, 2147483648, 2147483688), (11, 2147483648, 2147549184), (11, 0, 4294967295), (11, 2147483648, 2147485249), (11, 2147483648, 2147483653), (11, 2147483648, 2147483668), (2, 85, 0), (11, 0, 4294967295), (5, 0, 0), (2, 95, 0), (2, 96, 0), (2, 97, 0), (2, 98, 0), (2, 99, 0), (2, 101, 0), (2, 102, 0), (2, 105, 0), (2, 106, 0), (2, 107, 0), (2, 108, 0), (2, 109, 0), (2, 110, 0), (2, 111, 0), (11, 2147483648, 2147484768), (11, 2147482048, 2147483655), (11, 2147483648, 2147483738), (11, 2147483648, 2147483678), (11, 0, 4294967295), (11, 0, 4294967295), (11, 0, 4294967295), (11, 0, 4294967295), (11, 0, 4294967295), (2, 113, 0), (2, 116, 0), (2, 117, 0), (2, 121, 0), (11, 0, 4294967295), (11, 0, 4294967295), (2, 124, 0), (2, 125, 0), (11, 0, 4294967295), (2, 126, 0), (2, 127, 0), (2, 128, 0), (2, 129, 0), (2, 130, 0)])
def bn1453 : e2_Q1 := (bc206, bc3)
def bn1454 : e2_Q2 := (bn196, bn1453)
def bn1455 : e2_Q3 := (bn1454, bn1352)
def bn1456 : e2_Q4 := (bn195, bn1455)
def bn1457 : e2_Q5 := (bn1456, bn289)
def bn1458 : e2_Q6 := (bn1457, bn250)
def bn1459 : e2_Q7 := (bn1400, bn1458)
def bn1460 : e2_Q8 := (bn1373, bn1459)
noncomputable def h_b221_7 : ev_H := (bn1460 : e2_Q8)
def bc207 : ev_C := (10, [(0, 0, 0), (2, 88, 0), (2, 115, 0), (2, 114, 0), (2, 86, 0), (2, 112, 0), (11, 2147483648, 2147483688), (2, 118, 0), (2, 120, 0), (2, 131, 0), (2, 91, 0), (11, 2147483648, 2147483656), (2, 123, 0), (11, 2147483648, 2147483649), (11, 2147483648, 2147485248), (2, 87, 0), (2, 84, 0), (2, 122, 0), (2, 100, 0), (2, 132, 0), (11, 2147483648, 2147483668), (11, 2147483648, 2147485248), (1, 0, 4294967296), (11, 2147483648, 2147483653), (11, 2147483648, 2147485248), (2, 93, 0), (2, 104, 0), (11, 2147483648, 2147483678), (2, 89, 0), (2, 92, 0), (2, 119, 0), (2, 90, 0), (2, 94, 0), (2, 103, 0), (11, 2147483648, 2147483688), (11, 2147483648, 2147549184), (11, 0, 4294967295), (11, 2147483648, 2147485249), (11, 2147483648, 2147483653), (11, 2147483648, 2147483668), (2, 85, 0), (11, 0, 4294967295), (5, 0, 0), (2, 95, 0), (2, 96, 0), (2, 97, 0), (2, 98, 0), (2, 99, 0), (2, 101, 0), (2, 102, 0), (2, 105, 0), (2, 106, 0), (2, 107, 0), (2, 108, 0), (2, 109, 0), (2, 110, 0), (2, 111, 0), (11, 2147483648, 2147484768), (11, 2147482048, 2147483655), (11, 2147483648, 2147483738), (11, 2147483648, 2147483678), (11, 0, 4294967295), (11, 0, 4294967295), (11, 0, 4294967295), (11, 0, 4294967295), (11, 0, 4294967295), (2, 113, 0), (2, 116, 0), (2, 117, 0), (2, 121, 0), (11, 0, 4294967295), (11, 0, 4294967295), (2, 124, 0), (2, 125, 0), (11, 0, 4294967295), (2, 126, 0), (2, 127, 0), (2, 128, 0), (2, 129, 0), (2, 130, 0)])
def bn1461 : e2_Q1 := (bc207, bc3)
def bn1462 : e2_Q2 := (bn196, bn1461)
def bn1463 : e2_Q3 := (bn1462, bn1352)
def bn1464 : e2_Q4 := (bn195, bn1463)
def bn1465 : e2_Q5 := (bn1464, bn289)
def bn1466 : e2_Q6 := (bn1465, bn250)
def bn1467 : e2_Q7 := (bn1400, bn1466)
def bn1468 : e2_Q8 := (bn1373, bn1467)
noncomputable def h_b221_8 : ev_H := (bn1468 : e2_Q8)
def bc208 : ev_C := (10, [(0, 0, 0), (2, 88, 0), (2, 115, 0), (2, 114, 0), (2, 86, 0), (2, 112, 0), (11, 2147483648, 2147483688), (2, 118, 0), (2, 120, 0), (2, 131, 0), (2, 91, 0), (11, 2147483648, 2147483657), (2, 123, 0), (11, 2147483648, 2147483649), (11, 2147483648, 2147485248), (2, 87, 0), (2, 84, 0), (2, 122, 0), (2, 100, 0), (2, 132, 0), (11, 2147483648, 2147483668), (11, 2147483648, 2147485248), (1, 0, 4294967296), (11, 2147483648, 2147483653), (11, 2147483648, 2147485248), (2, 93, 0), (2, 104, 0), (11, 2147483648, 2147483678), (2, 89, 0), (2, 92, 0), (2, 119, 0), (2, 90, 0), (2, 94, 0), (2, 103, 0), (11, 2147483648, 2147483688), (11, 2147483648, 2147549184), (11, 0, 4294967295), (11, 2147483648, 2147485249), (11, 2147483648, 2147483653), (11, 2147483648, 2147483668), (2, 85, 0), (11, 0, 4294967295), (5, 0, 0), (2, 95, 0), (2, 96, 0), (2, 97, 0), (2, 98, 0), (2, 99, 0), (2, 101, 0), (2, 102, 0), (2, 105, 0), (2, 106, 0), (2, 107, 0), (2, 108, 0), (2, 109, 0), (2, 110, 0), (2, 111, 0), (11, 2147483648, 2147484768), (11, 2147482048, 2147483655), (11, 2147483648, 2147483738), (11, 2147483648, 2147483678), (11, 0, 4294967295), (11, 0, 4294967295), (11, 0, 4294967295), (11, 0, 4294967295), (11, 0, 4294967295), (2, 113, 0), (2, 116, 0), (2, 117, 0), (2, 121, 0), (11, 0, 4294967295), (11, 0, 4294967295), (2, 124, 0), (2, 125, 0), (11, 0, 4294967295), (2, 126, 0), (2, 127, 0), (2, 128, 0), (2, 129, 0), (2, 130, 0)])
def bn1469 : e2_Q1 := (bc208, bc3)
def bn1470 : e2_Q2 := (bn196, bn1469)
def bn1471 : e2_Q3 := (bn1470, bn1352)
def bn1472 : e2_Q4 := (bn195, bn1471)
def bn1473 : e2_Q5 := (bn1472, bn289)
def bn1474 : e2_Q6 := (bn1473, bn250)
def bn1475 : e2_Q7 := (bn1400, bn1474)
def bn1476 : e2_Q8 := (bn1373, bn1475)
noncomputable def h_b221_9 : ev_H := (bn1476 : e2_Q8)
def bc209 : ev_C := (10, [(0, 0, 0), (2, 88, 0), (2, 115, 0), (2, 114, 0), (2, 86, 0), (2, 112, 0), (11, 2147483648, 2147483688), (2, 118, 0), (2, 120, 0), (2, 131, 0), (2, 91, 0), (11, 2147483648, 2147483658), (2, 123, 0), (11, 2147483648, 2147483649), (11, 2147483648, 2147485248), (2, 87, 0), (2, 84, 0), (2, 122, 0), (2, 100, 0), (2, 132, 0), (11, 2147483648, 2147483668), (11, 2147483648, 2147485248), (1, 0, 4294967296), (11, 2147483648, 2147483653), (11, 2147483648, 2147485248), (2, 93, 0), (2, 104, 0), (11, 2147483648, 2147483678), (2, 89, 0), (2, 92, 0), (2, 119, 0), (2, 90, 0), (2, 94, 0), (2, 103, 0), (11, 2147483648, 2147483688), (11, 2147483648, 2147549184), (11, 0, 4294967295), (11, 2147483648, 2147485249), (11, 2147483648, 2147483653), (11, 2147483648, 2147483668), (2, 85, 0), (11, 0, 4294967295), (5, 0, 0), (2, 95, 0), (2, 96, 0), (2, 97, 0), (2, 98, 0), (2, 99, 0), (2, 101, 0), (2, 102, 0), (2, 105, 0), (2, 106, 0), (2, 107, 0), (2, 108, 0), (2, 109, 0), (2, 110, 0), (2, 111, 0), (11, 2147483648, 2147484768), (11, 2147482048, 2147483655), (11, 2147483648, 2147483738), (11, 2147483648, 2147483678), (11, 0, 4294967295), (11, 0, 4294967295), (11, 0, 4294967295), (11, 0, 4294967295), (11, 0, 4294967295), (2, 113, 0), (2, 116, 0), (2, 117, 0), (2, 121, 0), (11, 0, 4294967295), (11, 0, 4294967295), (2, 124, 0), (2, 125, 0), (11, 0, 4294967295), (2, 126, 0), (2, 127, 0), (2, 128, 0), (2, 129, 0), (2, 130, 0)])
def bn1477 : e2_Q1 := (bc209, bc3)
def bn1478 : e2_Q2 := (bn196, bn1477)
def bn1479 : e2_Q3 := (bn1478, bn1352)
def bn1480 : e2_Q4 := (bn195, bn1479)
def bn1481 : e2_Q5 := (bn1480, bn289)
def bn1482 : e2_Q6 := (bn1481, bn250)
def bn1483 : e2_Q7 := (bn1400, bn1482)
def bn1484 : e2_Q8 := (bn1373, bn1483)
noncomputable def h_b221_10 : ev_H := (bn1484 : e2_Q8)
def bc210 : ev_C := (10, [(0, 0, 0), (2, 88, 0), (2, 115, 0), (2, 114, 0), (2, 86, 0), (2, 112, 0), (11, 2147483648, 2147483688), (2, 118, 0), (2, 120, 0), (2, 131, 0), (2, 91, 0), (11, 2147483648, 2147483659), (2, 123, 0), (11, 2147483648, 2147483649), (11, 2147483648, 2147485248), (2, 87, 0), (2, 84, 0), (2, 122, 0), (2, 100, 0), (2, 132, 0), (11, 2147483648, 2147483668), (11, 2147483648, 2147485248), (1, 0, 4294967296), (11, 2147483648, 2147483653), (11, 2147483648, 2147485248), (2, 93, 0), (2, 104, 0), (11, 2147483648, 2147483678), (2, 89, 0), (2, 92, 0), (2, 119, 0), (2, 90, 0), (2, 94, 0), (2, 103, 0), (11, 2147483648, 2147483688), (11, 2147483648, 2147549184), (11, 0, 4294967295), (11, 2147483648, 2147485249), (11, 2147483648, 2147483653), (11, 2147483648, 2147483668), (2, 85, 0), (11, 0, 4294967295), (5, 0, 0), (2, 95, 0), (2, 96, 0), (2, 97, 0), (2, 98, 0), (2, 99, 0), (2, 101, 0), (2, 102, 0), (2, 105, 0), (2, 106, 0), (2, 107, 0), (2, 108, 0), (2, 109, 0), (2, 110, 0), (2, 111, 0), (11, 2147483648, 2147484768), (11, 2147482048, 2147483655), (11, 2147483648, 2147483738), (11, 2147483648, 2147483678), (11, 0, 4294967295), (11, 0, 4294967295), (11, 0, 4294967295), (11, 0, 4294967295), (11, 0, 4294967295), (2, 113, 0), (2, 116, 0), (2, 117, 0), (2, 121, 0), (11, 0, 4294967295), (11, 0, 4294967295), (2, 124, 0), (2, 125, 0), (11, 0, 4294967295), (2, 126, 0), (2, 127, 0), (2, 128, 0), (2, 129, 0), (2, 130, 0)])
def bn1485 : e2_Q1 := (bc210, bc3)
def bn1486 : e2_Q2 := (bn196, bn1485)
def bn1487 : e2_Q3 := (bn1486, bn1352)
def bn1488 : e2_Q4 := (bn195, bn1487)
def bn1489 : e2_Q5 := (bn1488, bn289)
def bn1490 : e2_Q6 := (bn1489, bn250)
def bn1491 : e2_Q7 := (bn1400, bn1490)
def bn1492 : e2_Q8 := (bn1373, bn1491)
noncomputable def h_b221_11 : ev_H := (bn1492 : e2_Q8)
def bc211 : ev_C := (10, [(0, 0, 0), (2, 88, 0), (2, 115, 0), (2, 114, 0), (2, 86, 0), (2, 112, 0), (11, 2147483648, 2147483688), (2, 118, 0), (2, 120, 0), (2, 131, 0), (2, 91, 0), (11, 2147483648, 2147483660), (2, 123, 0), (11, 2147483648, 2147483649), (11, 2147483648, 2147485248), (2, 87, 0), (2, 84, 0), (2, 122, 0), (2, 100, 0), (2, 132, 0), (11, 2147483648, 2147483668), (11, 2147483648, 2147485248), (1, 0, 4294967296), (11, 2147483648, 2147483653), (11, 2147483648, 2147485248), (2, 93, 0), (2, 104, 0), (11, 2147483648, 2147483678), (2, 89, 0), (2, 92, 0), (2, 119, 0), (2, 90, 0), (2, 94, 0), (2, 103, 0), (11, 2147483648, 2147483688), (11, 2147483648, 2147549184), (11, 0, 4294967295), (11, 2147483648, 2147485249), (11, 2147483648, 2147483653), (11, 2147483648, 2147483668), (2, 85, 0), (11, 0, 4294967295), (5, 0, 0), (2, 95, 0), (2, 96, 0), (2, 97, 0), (2, 98, 0), (2, 99, 0), (2, 101, 0), (2, 102, 0), (2, 105, 0), (2, 106, 0), (2, 107, 0), (2, 108, 0), (2, 109, 0), (2, 110, 0), (2, 111, 0), (11, 2147483648, 2147484768), (11, 2147482048, 2147483655), (11, 2147483648, 2147483738), (11, 2147483648, 2147483678), (11, 0, 4294967295), (11, 0, 4294967295), (11, 0, 4294967295), (11, 0, 4294967295), (11, 0, 4294967295), (2, 113, 0), (2, 116, 0), (2, 117, 0), (2, 121, 0), (11, 0, 4294967295), (11, 0, 4294967295), (2, 124, 0), (2, 125, 0), (11, 0, 4294967295), (2, 126, 0), (2, 127, 0), (2, 128, 0), (2, 129, 0), (2, 130, 0)])
def bn1493 : e2_Q1 := (bc211, bc3)
def bn1494 : e2_Q2 := (bn196, bn1493)
def bn1495 : e2_Q3 := (bn1494, bn1352)
def bn1496 : e2_Q4 := (bn195, bn1495)
def bn1497 : e2_Q5 := (bn1496, bn289)
def bn1498 : e2_Q6 := (bn1497, bn250)
def bn1499 : e2_Q7 := (bn1400, bn1498)
def bn1500 : e2_Q8 := (bn1373, bn1499)
noncomputable def h_b221_12 : ev_H := (bn1500 : e2_Q8)
def bc212 : ev_C := (10, [(0, 0, 0), (2, 88, 0), (2, 115, 0), (2, 114, 0), (2, 86, 0), (2, 112, 0), (11, 2147483648, 2147483688), (2, 118, 0), (2, 120, 0), (2, 131, 0), (2, 91, 0), (11, 2147483648, 2147483661), (2, 123, 0), (11, 2147483648, 2147483649), (11, 2147483648, 2147485248), (2, 87, 0), (2, 84, 0), (2, 122, 0), (2, 100, 0), (2, 132, 0), (11, 2147483648, 2147483668), (11, 2147483648, 2147485248), (1, 0, 4294967296), (11, 2147483648, 2147483653), (11, 2147483648, 2147485248), (2, 93, 0), (2, 104, 0), (11, 2147483648, 2147483678), (2, 89, 0), (2, 92, 0), (2, 119, 0), (2, 90, 0), (2, 94, 0), (2, 103, 0), (11, 2147483648, 2147483688), (11, 2147483648, 2147549184), (11, 0, 4294967295), (11, 2147483648, 2147485249), (11, 2147483648, 2147483653), (11, 2147483648, 2147483668), (2, 85, 0), (11, 0, 4294967295), (5, 0, 0), (2, 95, 0), (2, 96, 0), (2, 97, 0), (2, 98, 0), (2, 99, 0), (2, 101, 0), (2, 102, 0), (2, 105, 0), (2, 106, 0), (2, 107, 0), (2, 108, 0), (2, 109, 0), (2, 110, 0), (2, 111, 0), (11, 2147483648, 2147484768), (11, 2147482048, 2147483655), (11, 2147483648, 2147483738), (11, 2147483648, 2147483678), (11, 0, 4294967295), (11, 0, 4294967295), (11, 0, 4294967295), (11, 0, 4294967295), (11, 0, 4294967295), (2, 113, 0), (2, 116, 0), (2, 117, 0), (2, 121, 0), (11, 0, 4294967295), (11, 0, 4294967295), (2, 124, 0), (2, 125, 0), (11, 0, 4294967295), (2, 126, 0), (2, 127, 0), (2, 128, 0), (2, 129, 0), (2, 130, 0)])
def bn1501 : e2_Q1 := (bc212, bc3)
def bn1502 : e2_Q2 := (bn196, bn1501)
def bn1503 : e2_Q3 := (bn1502, bn1352)
def bn1504 : e2_Q4 := (bn195, bn1503)
def bn1505 : e2_Q5 := (bn1504, bn289)
def bn1506 : e2_Q6 := (bn1505, bn250)
def bn1507 : e2_Q7 := (bn1400, bn1506)
def bn1508 : e2_Q8 := (bn1373, bn1507)
noncomputable def h_b221_13 : ev_H := (bn1508 : e2_Q8)
def bc213 : ev_C := (10, [(0, 0, 0), (2, 88, 0), (2, 115, 0), (2, 114, 0), (2, 86, 0), (2, 112, 0), (11, 2147483648, 2147483688), (2, 118, 0), (2, 120, 0), (2, 131, 0), (2, 91, 0), (11, 2147483648, 2147483662), (2, 123, 0), (11, 2147483648, 2147483649), (11, 2147483648, 2147485248), (2, 87, 0), (2, 84, 0), (2, 122, 0), (2, 100, 0), (2, 132, 0), (11, 2147483648, 2147483668), (11, 2147483648, 2147485248), (1, 0, 4294967296), (11, 2147483648, 2147483653), (11, 2147483648, 2147485248), (2, 93, 0), (2, 104, 0), (11, 2147483648, 2147483678), (2, 89, 0), (2, 92, 0), (2, 119, 0), (2, 90, 0), (2, 94, 0), (2, 103, 0), (11, 2147483648, 2147483688), (11, 2147483648, 2147549184), (11, 0, 4294967295), (11, 2147483648, 2147485249), (11, 2147483648, 2147483653), (11, 2147483648, 2147483668), (2, 85, 0), (11, 0, 4294967295), (5, 0, 0), (2, 95, 0), (2, 96, 0), (2, 97, 0), (2, 98, 0), (2, 99, 0), (2, 101, 0), (2, 102, 0), (2, 105, 0), (2, 106, 0), (2, 107, 0), (2, 108, 0), (2, 109, 0), (2, 110, 0), (2, 111, 0), (11, 2147483648, 2147484768), (11, 2147482048, 2147483655), (11, 2147483648, 2147483738), (11, 2147483648, 2147483678), (11, 0, 4294967295), (11, 0, 4294967295), (11, 0, 4294967295), (11, 0, 4294967295), (11, 0, 4294967295), (2, 113, 0), (2, 116, 0), (2, 117, 0), (2, 121, 0), (11, 0, 4294967295), (11, 0, 4294967295), (2, 124, 0), (2, 125, 0), (11, 0, 4294967295), (2, 126, 0), (2, 127, 0), (2, 128, 0), (2, 129, 0), (2, 130, 0)])
def bn1509 : e2_Q1 := (bc213, bc3)
def bn1510 : e2_Q2 := (bn196, bn1509)
def bn1511 : e2_Q3 := (bn1510, bn1352)
def bn1512 : e2_Q4 := (bn195, bn1511)
def bn1513 : e2_Q5 := (bn1512, bn289)
def bn1514 : e2_Q6 := (bn1513, bn250)
def bn1515 : e2_Q7 := (bn1400, bn1514)
def bn1516 : e2_Q8 := (bn1373, bn1515)
noncomputable def h_b221_14 : ev_H := (bn1516 : e2_Q8)
def bc214 : ev_C := (10, [(0, 0, 0), (2, 88, 0), (2, 115, 0), (2, 114, 0), (2, 86, 0), (2, 112, 0), (11, 2147483648, 2147483688), (2, 118, 0), (2, 120, 0), (2, 131, 0), (2, 91, 0), (11, 2147483648, 2147483663), (2, 123, 0), (11, 2147483648, 2147483649), (11, 2147483648, 2147485248), (2, 87, 0), (2, 84, 0), (2, 122, 0), (2, 100, 0), (2, 132, 0), (11, 2147483648, 2147483668), (11, 2147483648, 2147485248), (1, 0, 4294967296), (11, 2147483648, 2147483653), (11, 2147483648, 2147485248), (2, 93, 0), (2, 104, 0), (11, 2147483648, 2147483678), (2, 89, 0), (2, 92, 0), (2, 119, 0), (2, 90, 0), (2, 94, 0), (2, 103, 0), (11, 2147483648, 2147483688), (11, 2147483648, 2147549184), (11, 0, 4294967295), (11, 2147483648, 2147485249), (11, 2147483648, 2147483653), (11, 2147483648, 2147483668), (2, 85, 0), (11, 0, 4294967295), (5, 0, 0), (2, 95, 0), (2, 96, 0), (2, 97, 0), (2, 98, 0), (2, 99, 0), (2, 101, 0), (2, 102, 0), (2, 105, 0), (2, 106, 0), (2, 107, 0), (2, 108, 0), (2, 109, 0), (2, 110, 0), (2, 111, 0), (11, 2147483648, 2147484768), (11, 2147482048, 2147483655), (11, 2147483648, 2147483738), (11, 2147483648, 2147483678), (11, 0, 4294967295), (11, 0, 4294967295), (11, 0, 4294967295), (11, 0, 4294967295), (11, 0, 4294967295), (2, 113, 0), (2, 116, 0), (2, 117, 0), (2, 121, 0), (11, 0, 4294967295), (11, 0, 4294967295), (2, 124, 0), (2, 125, 0), (11, 0, 4294967295), (2, 126, 0), (2, 127, 0), (2, 128, 0), (2, 129, 0), (2, 130, 0)])
def bn1517 : e2_Q1 := (bc214, bc3)
def bn1518 : e2_Q2 := (bn196, bn1517)
def bn1519 : e2_Q3 := (bn1518, bn1352)
def bn1520 : e2_Q4 := (bn195, bn1519)
def bn1521 : e2_Q5 := (bn1520, bn289)
def bn1522 : e2_Q6 := (bn1521, bn250)
def bn1523 : e2_Q7 := (bn1400, bn1522)
def bn1524 : e2_Q8 := (bn1373, bn1523)
noncomputable def h_b221_15 : ev_H := (bn1524 : e2_Q8)
def bc215 : ev_C := (10, [(0, 0, 0), (2, 88, 0), (2, 115, 0), (2, 114, 0), (2, 86, 0), (2, 112, 0), (11, 2147483648, 2147483688), (2, 118, 0), (2, 120, 0), (2, 131, 0), (2, 91, 0), (11, 2147483648, 2147483664), (2, 123, 0), (11, 2147483648, 2147483649), (11, 2147483648, 2147485248), (2, 87, 0), (2, 84, 0), (2, 122, 0), (2, 100, 0), (2, 132, 0), (11, 2147483648, 2147483668), (11, 2147483648, 2147485248), (1, 0, 4294967296), (11, 2147483648, 2147483653), (11, 2147483648, 2147485248), (2, 93, 0), (2, 104, 0), (11, 2147483648, 2147483678), (2, 89, 0), (2, 92, 0), (2, 119, 0), (2, 90, 0), (2, 94, 0), (2, 103, 0), (11, 2147483648, 2147483688), (11, 2147483648, 2147549184), (11, 0, 4294967295), (11, 2147483648, 2147485249), (11, 2147483648, 2147483653), (11, 2147483648, 2147483668), (2, 85, 0), (11, 0, 4294967295), (5, 0, 0), (2, 95, 0), (2, 96, 0), (2, 97, 0), (2, 98, 0), (2, 99, 0), (2, 101, 0), (2, 102, 0), (2, 105, 0), (2, 106, 0), (2, 107, 0), (2, 108, 0), (2, 109, 0), (2, 110, 0), (2, 111, 0), (11, 2147483648, 2147484768), (11, 2147482048, 2147483655), (11, 2147483648, 2147483738), (11, 2147483648, 2147483678), (11, 0, 4294967295), (11, 0, 4294967295), (11, 0, 4294967295), (11, 0, 4294967295), (11, 0, 4294967295), (2, 113, 0), (2, 116, 0), (2, 117, 0), (2, 121, 0), (11, 0, 4294967295), (11, 0, 4294967295), (2, 124, 0), (2, 125, 0), (11, 0, 4294967295), (2, 126, 0), (2, 127, 0), (2, 128, 0), (2, 129, 0), (2, 130, 0)])
def bn1525 : e2_Q1 := (bc215, bc3)
def bn1526 : e2_Q2 := (bn196, bn1525)
def bn1527 : e2_Q3 := (bn1526, bn1352)
def bn1528 : e2_Q4 := (bn195, bn1527)
def bn1529 : e2_Q5 := (bn1528, bn289)
def bn1530 : e2_Q6 := (bn1529, bn250)
def bn1531 : e2_Q7 := (bn1400, bn1530)
def bn1532 : e2_Q8 := (bn1373, bn1531)
noncomputable def h_b221_16 : ev_H := (bn1532 : e2_Q8)
def bc216 : ev_C := (10, [(0, 0, 0), (2, 88, 0), (2, 115, 0), (2, 114, 0), (2, 86, 0), (2, 112, 0), (11, 2147483648, 2147483688), (2, 118, 0), (2, 120, 0), (2, 131, 0), (2, 91, 0), (11, 2147483648, 2147483665), (2, 123, 0), (11, 2147483648, 2147483649), (11, 2147483648, 2147485248), (2, 87, 0), (2, 84, 0), (2, 122, 0), (2, 100, 0), (2, 132, 0), (11, 2147483648, 2147483668), (11, 2147483648, 2147485248), (1, 0, 4294967296), (11, 2147483648, 2147483653), (11, 2147483648, 2147485248), (2, 93, 0), (2, 104, 0), (11, 2147483648, 2147483678), (2, 89, 0), (2, 92, 0), (2, 119, 0), (2, 90, 0), (2, 94, 0), (2, 103, 0), (11, 2147483648, 2147483688), (11, 2147483648, 2147549184), (11, 0, 4294967295), (11, 2147483648, 2147485249), (11, 2147483648, 2147483653), (11, 2147483648, 2147483668), (2, 85, 0), (11, 0, 4294967295), (5, 0, 0), (2, 95, 0), (2, 96, 0), (2, 97, 0), (2, 98, 0), (2, 99, 0), (2, 101, 0), (2, 102, 0), (2, 105, 0), (2, 106, 0), (2, 107, 0), (2, 108, 0), (2, 109, 0), (2, 110, 0), (2, 111, 0), (11, 2147483648, 2147484768), (11, 2147482048, 2147483655), (11, 2147483648, 2147483738), (11, 2147483648, 2147483678), (11, 0, 4294967295), (11, 0, 4294967295), (11, 0, 4294967295), (11, 0, 4294967295), (11, 0, 4294967295), (2, 113, 0), (2, 116, 0), (2, 117, 0), (2, 121, 0), (11, 0, 4294967295), (11, 0, 4294967295), (2, 124, 0), (2, 125, 0), (11, 0, 4294967295), (2, 126, 0), (2, 127, 0), (2, 128, 0), (2, 129, 0), (2, 130, 0)])
def bn1533 : e2_Q1 := (bc216, bc3)
def bn1534 : e2_Q2 := (bn196, bn1533)
def bn1535 : e2_Q3 := (bn1534, bn1352)
def bn1536 : e2_Q4 := (bn195, bn1535)
def bn1537 : e2_Q5 := (bn1536, bn289)
def bn1538 : e2_Q6 := (bn1537, bn250)
def bn1539 : e2_Q7 := (bn1400, bn1538)
def bn1540 : e2_Q8 := (bn1373, bn1539)
noncomputable def h_b221_17 : ev_H := (bn1540 : e2_Q8)
def bc217 : ev_C := (10, [(0, 0, 0), (2, 88, 0), (2, 115, 0), (2, 114, 0), (2, 86, 0), (2, 112, 0), (11, 2147483648, 2147483688), (2, 118, 0), (2, 120, 0), (2, 131, 0), (2, 91, 0), (11, 2147483648, 2147483666), (2, 123, 0), (11, 2147483648, 2147483649), (11, 2147483648, 2147485248), (2, 87, 0), (2, 84, 0), (2, 122, 0), (2, 100, 0), (2, 132, 0), (11, 2147483648, 2147483668), (11, 2147483648, 2147485248), (1, 0, 4294967296), (11, 2147483648, 2147483653), (11, 2147483648, 2147485248), (2, 93, 0), (2, 104, 0), (11, 2147483648, 2147483678), (2, 89, 0), (2, 92, 0), (2, 119, 0), (2, 90, 0), (2, 94, 0), (2, 103, 0), (11, 2147483648, 2147483688), (11, 2147483648, 2147549184), (11, 0, 4294967295), (11, 2147483648, 2147485249), (11, 2147483648, 2147483653), (11, 2147483648, 2147483668), (2, 85, 0), (11, 0, 4294967295), (5, 0, 0), (2, 95, 0), (2, 96, 0), (2, 97, 0), (2, 98, 0), (2, 99, 0), (2, 101, 0), (2, 102, 0), (2, 105, 0), (2, 106, 0), (2, 107, 0), (2, 108, 0), (2, 109, 0), (2, 110, 0), (2, 111, 0), (11, 2147483648, 2147484768), (11, 2147482048, 2147483655), (11, 2147483648, 2147483738), (11, 2147483648, 2147483678), (11, 0, 4294967295), (11, 0, 4294967295), (11, 0, 4294967295), (11, 0, 4294967295), (11, 0, 4294967295), (2, 113, 0), (2, 116, 0), (2, 117, 0), (2, 121, 0), (11, 0, 4294967295), (11, 0, 4294967295), (2, 124, 0), (2, 125, 0), (11, 0, 4294967295), (2, 126, 0), (2, 127, 0), (2, 128, 0), (2, 129, 0), (2, 130, 0)])
def bn1541 : e2_Q1 := (bc217, bc3)
def bn1542 : e2_Q2 := (bn196, bn1541)
def bn1543 : e2_Q3 := (bn1542, bn1352)
def bn1544 : e2_Q4 := (bn195, bn1543)
def bn1545 : e2_Q5 := (bn1544, bn289)
def bn1546 : e2_Q6 := (bn1545, bn250)
def bn1547 : e2_Q7 := (bn1400, bn1546)
def bn1548 : e2_Q8 := (bn1373, bn1547)
noncomputable def h_b221_18 : ev_H := (bn1548 : e2_Q8)
def bc218 : ev_C := (10, [(0, 0, 0), (2, 88, 0), (2, 115, 0), (2, 114, 0), (2, 86, 0), (2, 112, 0), (11, 2147483648, 2147483688), (2, 118, 0), (2, 120, 0), (2, 131, 0), (2, 91, 0), (11, 2147483648, 2147483667), (2, 123, 0), (11, 2147483648, 2147483649), (11, 2147483648, 2147485248), (2, 87, 0), (2, 84, 0), (2, 122, 0), (2, 100, 0), (2, 132, 0), (11, 2147483648, 2147483668), (11, 2147483648, 2147485248), (1, 0, 4294967296), (11, 2147483648, 2147483653), (11, 2147483648, 2147485248), (2, 93, 0), (2, 104, 0), (11, 2147483648, 2147483678), (2, 89, 0), (2, 92, 0), (2, 119, 0), (2, 90, 0), (2, 94, 0), (2, 103, 0), (11, 2147483648, 2147483688), (11, 2147483648, 2147549184), (11, 0, 4294967295), (11, 2147483648, 2147485249), (11, 2147483648, 2147483653), (11, 2147483648, 2147483668), (2, 85, 0), (11, 0, 4294967295), (5, 0, 0), (2, 95, 0), (2, 96, 0), (2, 97, 0), (2, 98, 0), (2, 99, 0), (2, 101, 0), (2, 102, 0), (2, 105, 0), (2, 106, 0), (2, 107, 0), (2, 108, 0), (2, 109, 0), (2, 110, 0), (2, 111, 0), (11, 2147483648, 2147484768), (11, 2147482048, 2147483655), (11, 2147483648, 2147483738), (11, 2147483648, 2147483678), (11, 0, 4294967295), (11, 0, 4294967295), (11, 0, 4294967295), (11, 0, 4294967295), (11, 0, 4294967295), (2, 113, 0), (2, 116, 0), (2, 117, 0), (2, 121, 0), (11, 0, 4294967295), (11, 0, 4294967295), (2, 124, 0), (2, 125, 0), (11, 0, 4294967295), (2, 126, 0), (2, 127, 0), (2, 128, 0), (2, 129, 0), (2, 130, 0)])
def bn1549 : e2_Q1 := (bc218, bc3)
def bn1550 : e2_Q2 := (bn196, bn1549)
def bn1551 : e2_Q3 := (bn1550, bn1352)
def bn1552 : e2_Q4 := (bn195, bn1551)
def bn1553 : e2_Q5 := (bn1552, bn289)
def bn1554 : e2_Q6 := (bn1553, bn250)
def bn1555 : e2_Q7 := (bn1400, bn1554)
def bn1556 : e2_Q8 := (bn1373, bn1555)
noncomputable def h_b221_19 : ev_H := (bn1556 : e2_Q8)
noncomputable def h_b221_20 : ev_H := (bn1402 : e2_Q8)
def bc219 : ev_C := (10, [(0, 0, 0), (2, 88, 0), (2, 115, 0), (2, 114, 0), (2, 86, 0), (2, 112, 0), (11, 2147483648, 2147483688), (2, 118, 0), (2, 120, 0), (2, 131, 0), (2, 91, 0), (11, 2147483649, 2147483668), (2, 123, 0), (11, 2147483648, 2147483649), (11, 2147483648, 2147485248), (2, 87, 0), (2, 84, 0), (2, 122, 0), (2, 100, 0), (2, 132, 0), (11, 2147483648, 2147483668), (11, 2147483648, 2147485248), (1, 0, 4294967296), (11, 2147483648, 2147483653), (11, 2147483648, 2147485248), (2, 93, 0), (2, 104, 0), (11, 2147483648, 2147483678), (2, 89, 0), (2, 92, 0), (2, 119, 0), (2, 90, 0), (2, 94, 0), (2, 103, 0), (11, 2147483648, 2147483688), (11, 2147483648, 2147549184), (11, 0, 4294967295), (11, 2147483648, 2147485249), (11, 2147483648, 2147483653), (11, 2147483648, 2147483668), (2, 85, 0), (11, 0, 4294967295), (5, 0, 0), (2, 95, 0), (2, 96, 0), (2, 97, 0), (2, 98, 0), (2, 99, 0), (2, 101, 0), (2, 102, 0), (2, 105, 0), (2, 106, 0), (2, 107, 0), (2, 108, 0), (2, 109, 0), (2, 110, 0), (2, 111, 0), (11, 2147483648, 2147484768), (11, 2147482048, 2147483655), (11, 2147483648, 2147483738), (11, 2147483648, 2147483678), (11, 0, 4294967295), (11, 0, 4294967295), (11, 0, 4294967295), (11, 0, 4294967295), (11, 0, 4294967295), (2, 113, 0), (2, 116, 0), (2, 117, 0), (2, 121, 0), (11, 0, 4294967295), (11, 0, 4294967295), (2, 124, 0), (2, 125, 0), (11, 0, 4294967295), (2, 126, 0), (2, 127, 0), (2, 128, 0), (2, 129, 0), (2, 130, 0)])
def bn1557 : e2_Q1 := (bc219, bc3)
def bn1558 : e2_Q2 := (bn196, bn1557)
def bn1559 : e2_Q3 := (bn1558, bn1352)
def bn1560 : e2_Q4 := (bn195, bn1559)
def bn1561 : e2_Q5 := (bn1560, bn289)
def bn1562 : e2_Q6 := (bn1561, bn250)
def bn1563 : e2_Q7 := (bn1400, bn1562)
def bn1564 : e2_Q8 := (bn1373, bn1563)
noncomputable def h_b221_21 : ev_H := (bn1564 : e2_Q8)
noncomputable def h_b221_22 : ev_H := (bn1564 : e2_Q8)
noncomputable def h_b221_23 : ev_H := (bn1564 : e2_Q8)
noncomputable def h_b221_24 : ev_H := (bn1564 : e2_Q8)
noncomputable def h_b221_25 : ev_H := (bn1564 : e2_Q8)
noncomputable def cu_b221_120 : List e2_Cu := [([(2, 83, 0), (11, 0, 4294967295), (0, 0, 0), (0, 8, 0), (9, 0, 0)], [(2147483648, 2147583648, 0, 0), (2147483649, 2147483649, 1, 0)], h_b221_0),
  ([(2, 83, 0), (11, 0, 4294967295), (0, 1, 0), (11, 2147483648, 2147483656), (11, 2147483647, 2147483648)], [(2147483648, 2147583648, 0, 0), (2147483649, 2147483649, 1, 0)], h_b221_1),
  ([(2, 83, 0), (11, 0, 4294967295), (0, 2, 0), (11, 2147483648, 2147483656), (11, 2147483647, 2147483648)], [(2147483648, 2147583648, 0, 0), (2147483649, 2147483649, 1, 0)], h_b221_2),
  ([(2, 83, 0), (11, 0, 4294967295), (0, 3, 0), (11, 2147483648, 2147483656), (11, 2147483647, 2147483648)], [(2147483648, 2147583648, 0, 0), (2147483649, 2147483649, 1, 0)], h_b221_3),
  ([(2, 83, 0), (11, 0, 4294967295), (0, 4, 0), (11, 2147483648, 2147483656), (11, 2147483647, 2147483648)], [(2147483648, 2147583648, 0, 0), (2147483649, 2147483649, 1, 0)], h_b221_4),
  ([(2, 83, 0), (11, 0, 4294967295), (0, 5, 0), (11, 2147483648, 2147483656), (11, 2147483647, 2147483648)], [(2147483648, 2147583648, 0, 0), (2147483649, 2147483649, 1, 0)], h_b221_5),
  ([(2, 83, 0), (11, 0, 4294967295), (0, 6, 0), (11, 2147483648, 2147483656), (11, 2147483647, 2147483648)], [(2147483648, 2147583648, 0, 0), (2147483649, 2147483649, 1, 0)], h_b221_6),
  ([(2, 83, 0), (11, 0, 4294967295), (0, 7, 0), (11, 2147483648, 2147483656), (11, 2147483647, 2147483648)], [(2147483648, 2147583648, 0, 0), (2147483649, 2147483649, 1, 0)], h_b221_7),
  ([(2, 83, 0), (11, 0, 4294967295), (0, 8, 0), (11, 2147483648, 2147483656), (11, 2147483647, 2147483648)], [(2147483648, 2147583648, 0, 0), (2147483649, 2147483649, 1, 0)], h_b221_8),
  ([(2, 83, 0), (11, 0, 4294967295), (0, 9, 0), (11, 2147483648, 2147483656), (11, 2147483647, 2147483648)], [(2147483648, 2147583648, 0, 0), (2147483649, 2147483649, 1, 0)], h_b221_9),
  ([(2, 83, 0), (11, 0, 4294967295), (0, 10, 0), (11, 2147483648, 2147483656), (11, 2147483647, 2147483648)], [(2147483648, 2147583648, 0, 0), (2147483649, 2147483649, 1, 0)], h_b221_10),
  ([(2, 83, 0), (11, 0, 4294967295), (0, 11, 0), (11, 2147483648, 2147483656), (11, 2147483647, 2147483648)], [(2147483648, 2147583648, 0, 0), (2147483649, 2147483649, 1, 0)], h_b221_11),
  ([(2, 83, 0), (11, 0, 4294967295), (0, 12, 0), (11, 2147483648, 2147483656), (11, 2147483647, 2147483648)], [(2147483648, 2147583648, 0, 0), (2147483649, 2147483649, 1, 0)], h_b221_12),
  ([(2, 83, 0), (11, 0, 4294967295), (0, 13, 0), (11, 2147483648, 2147483656), (11, 2147483647, 2147483648)], [(2147483648, 2147583648, 0, 0), (2147483649, 2147483649, 1, 0)], h_b221_13),
  ([(2, 83, 0), (11, 0, 4294967295), (0, 14, 0), (11, 2147483648, 2147483656), (11, 2147483647, 2147483648)], [(2147483648, 2147583648, 0, 0), (2147483649, 2147483649, 1, 0)], h_b221_14),
  ([(2, 83, 0), (11, 0, 4294967295), (0, 15, 0), (11, 2147483648, 2147483656), (11, 2147483647, 2147483648)], [(2147483648, 2147583648, 0, 0), (2147483649, 2147483649, 1, 0)], h_b221_15),
  ([(2, 83, 0), (11, 0, 4294967295), (0, 16, 0), (11, 2147483648, 2147483656), (11, 2147483647, 2147483648)], [(2147483648, 2147583648, 0, 0), (2147483649, 2147483649, 1, 0)], h_b221_16),
  ([(2, 83, 0), (11, 0, 4294967295), (0, 17, 0), (11, 2147483648, 2147483656), (11, 2147483647, 2147483648)], [(2147483648, 2147583648, 0, 0), (2147483649, 2147483649, 1, 0)], h_b221_17),
  ([(2, 83, 0), (11, 0, 4294967295), (0, 18, 0), (11, 2147483648, 2147483656), (11, 2147483647, 2147483648)], [(2147483648, 2147583648, 0, 0), (2147483649, 2147483649, 1, 0)], h_b221_18),
  ([(2, 83, 0), (11, 0, 4294967295), (0, 19, 0), (11, 2147483648, 2147483656), (11, 2147483647, 2147483648)], [(2147483648, 2147583648, 0, 0), (2147483649, 2147483649, 1, 0)], h_b221_19),
  ([(2, 83, 0), (11, 0, 4294967295), (0, 20, 0), (11, 2147483648, 2147483656), (11, 2147483647, 2147483648)], [(2147483648, 2147583648, 0, 0), (2147483649, 2147483649, 1, 0)], h_b221_20),
  ([(2, 83, 0), (11, 0, 4294967295), (0, 21, 0), (0, 0, 0), (0, 0, 0)], [(2147483648, 2147583648, 0, 0), (2147483649, 2147483649, 1, 0)], h_b221_21),
  ([(2, 83, 0), (11, 0, 4294967295), (0, 22, 0), (0, 0, 0), (0, 0, 0)], [(2147483648, 2147583648, 0, 0), (2147483649, 2147483649, 1, 0)], h_b221_22),
  ([(2, 83, 0), (11, 0, 4294967295), (0, 23, 0), (0, 0, 0), (0, 0, 0)], [(2147483648, 2147583648, 0, 0), (2147483649, 2147483649, 1, 0)], h_b221_23),
  ([(2, 83, 0), (11, 0, 4294967295), (0, 24, 0), (0, 0, 0), (0, 0, 0)], [(2147483648, 2147583648, 0, 0), (2147483649, 2147483649, 1, 0)], h_b221_24),
  ([(2, 83, 0), (11, 0, 4294967295), (0, 25, 0), (0, 0, 0), (0, 0, 0)], [(2147483648, 2147583648, 0, 0), (2147483649, 2147483649, 1, 0)], h_b221_25)]
noncomputable def cl_b221_e : List (Nat × e2_S) := [(2, e2_cutL (al_b221_26.set 2 (11, 2147483648, 2147483657)) 2 (E_b221_26.take 2) h_b221_26)]
set_option maxRecDepth 1000000 in
theorem ck_b221_e : e2_run (e2_orG 231 83 11 2 2147483648 2147483668 as_b219 Eb_b219 f_b219 rs_b219 (e2_cal S_b221 I_b221 4000 1)) (e2_fin rs_b221) e2x_230 (e2_bpL cl_b221_e) (e2_cutA cl_b221_e) 4000 (e2_seek e2x_230 0) (e2_al 5 as_b221) [] E_b221 f_b221 = true := by decide +kernel
noncomputable def cl_b221_26 : List (Nat × e2_S) := [(2, e2_cutL (al_b221_26.set 2 (13, 10, 2147483657)) 2 (E_b221_26.take 2) h_b221_26),
  (49, e2_cutL (al_b221_27.set 2 (11, 2147483647, 2147483667)) 2 (E_b221_27.take 2) h_b221_27)]
set_option maxRecDepth 1000000 in
theorem ck_b221_26 : e2_runM (e2_orG 231 83 11 2 2147483648 2147483668 as_b219 Eb_b219 f_b219 rs_b219 (e2_cal S_b221 I_b221 4000 1)) (e2_fin rs_b221) e2x_230 (e2_bpL cl_b221_26) (e2_cutA cl_b221_26) 4000 (e2_seek e2x_230 2) al_b221_26 [] E_b221_26 h_b221_26 = true := by decide +kernel
set_option maxRecDepth 1000000 in
theorem ci_b221_26 : e2_idl 2 (al_b221_26.set 2 (9, 0, 0)) = true := by decide +kernel
set_option maxRecDepth 1000000 in
theorem cj_b221_26 : e2_idh 2 8 h_b221_26 = true := by decide +kernel
noncomputable def cl_b221_27 : List (Nat × e2_S) := [(120, e2_cutS cu_b221_120),
  (55, e2_cutL (al_b221_28.set 3 (11, 2147483648, 2147483657)) 3 (E_b221_28.take 3) h_b221_28)]
set_option maxRecDepth 1000000 in
theorem ck_b221_27 : e2_runM (e2_orG 231 83 11 2 2147483648 2147483668 as_b219 Eb_b219 f_b219 rs_b219 (e2_cal S_b221 I_b221 4000 1)) (e2_fin rs_b221) e2x_230 (e2_bpL cl_b221_27) (e2_cutA cl_b221_27) 4000 (e2_seek e2x_230 49) al_b221_27 [] E_b221_27 h_b221_27 = true := by decide +kernel
set_option maxRecDepth 1000000 in
theorem ci_b221_27 : e2_idl 2 (al_b221_27.set 2 (9, 0, 0)) = true := by decide +kernel
set_option maxRecDepth 1000000 in
theorem cj_b221_27 : e2_idh 2 8 h_b221_27 = true := by decide +kernel
noncomputable def cl_b221_28 : List (Nat × e2_S) := [(49, e2_cutL (al_b221_27.set 2 (12, 10, 2147483647)) 2 (E_b221_27.take 2) h_b221_27),
  (55, e2_cutL (al_b221_28.set 3 (13, 11, 2147483657)) 3 (E_b221_28.take 3) h_b221_28)]
set_option maxRecDepth 1000000 in
theorem ck_b221_28 : e2_runM (e2_orG 231 83 11 2 2147483648 2147483668 as_b219 Eb_b219 f_b219 rs_b219 (e2_cal S_b221 I_b221 4000 1)) (e2_fin rs_b221) e2x_230 (e2_bpL cl_b221_28) (e2_cutA cl_b221_28) 4000 (e2_seek e2x_230 55) al_b221_28 [] E_b221_28 h_b221_28 = true := by decide +kernel
set_option maxRecDepth 1000000 in
theorem ci_b221_28 : e2_idl 3 (al_b221_28.set 3 (9, 0, 0)) = true := by decide +kernel
set_option maxRecDepth 1000000 in
theorem cj_b221_28 : e2_idh 3 8 h_b221_28 = true := by decide +kernel
set_option maxRecDepth 1000000 in
theorem ck_b221_u120 : e2_cutsB (e2_orG 231 83 11 2 2147483648 2147483668 as_b219 Eb_b219 f_b219 rs_b219 (e2_cal S_b221 I_b221 4000 1)) (e2_fin rs_b221) e2x_230 120 4000 cu_b221_120 = true := by decide +kernel
theorem cs_b221 (hen : en_ok) (l : Launch) : e2_smOk l 5 s_b221 := by
  refine e2_conC (H := 4) (C := evd_230) ei_230 (fun d hd => (e2_orG_ok (e2_cal_ok hen (e2_fa (cs_b218 hen l) e2_fz) (e2_fa ein_216 (e2_fa ein_217 (e2_fa ein_227 e2_fz))) 1 d (by omega)) rfl (by decide) (fun M hM => (cs_b219 hen l).2 M hM d (by omega)) (e2_okGB_ok cog_b219))) (by decide) co_b221 fun M d _ hC hcall p e R s m args below meth c Q D cA A ads r0 ha hl0 => ?_
  have EN_120 := e2_cutS_ok (bp := 120) (cuts := cu_b221_120) (e2_cuts_len hl0 (by decide +kernel)) (e2_cuts_ok hen ha hcall (hC [192, 195]) (X := e2x_230) ex2_230 (e2_cuts_len hl0 (by decide +kernel)) ck_b221_u120)
  have L_27 : e2_gdM M p l e R s m args below meth c Q D cA A ads r0 49 al_b221_27 [] E_b221_27 h_b221_27 := by
    refine e2_indD (u := 2) (j := 2) (lo := 2147483647) (hi := 2147483667) hl0 (by decide) rfl rfl rfl ci_b221_27 cj_b221_27 ?_
    intro r_27 k_27 hk_27 hp_27 hs_27 hn_27
    have hl_27 : r_27.length ≤ 3 := hs_27.len rfl
    have ha_27 := ha.ext hp_27
    have L_28 : e2_gdM M p l e R s m args below meth c Q D cA A ads r_27 55 al_b221_28 [] E_b221_28 h_b221_28 := by
      refine e2_indL (u := 3) (j := 3) (lo := 2147483648) (hi := 2147483657) (b := 3) (dd := 0) hl_27 (by decide) rfl rfl (Or.inr ⟨rfl, rfl⟩) rfl ci_b221_28 cj_b221_28 ?_
      intro r_28 k_28 hk_28 hp_28 hs_28 hn_28
      have hl_28 : r_28.length ≤ 4 := hs_28.len rfl
      have ha_28 := ha_27.ext hp_28
      exact e2_fromM hen ha_28 hcall (e2_cutA_ok (e2_fa (fun al st E h hc => (hn_27 al st E h hc).ext hp_28) (e2_fa (fun al st E h hc => hn_28 al st E h hc) e2_fz))) (hC [192, 195]) (X := e2x_230) ex2_230 55 ck_b221_28
    have EN_28 := e2_entL (u := 3) (j := 3) (lo := 2147483648) (hi := 2147483657) hl_27 rfl rfl rfl ci_b221_28 cj_b221_28 L_28
    exact e2_fromM hen ha_27 hcall (e2_cutA_ok (e2_fa (fun al st E h hc => (EN_120 al st E h hc).ext hp_27) (e2_fa (fun al st E h hc => EN_28 al st E h hc) e2_fz))) (hC [192, 195]) (X := e2x_230) ex2_230 49 ck_b221_27
  have EN_27 := e2_entL (u := 2) (j := 2) (lo := 2147483647) (hi := 2147483667) hl0 rfl rfl rfl ci_b221_27 cj_b221_27 L_27
  have L_26 : e2_gdM M p l e R s m args below meth c Q D cA A ads r0 2 al_b221_26 [] E_b221_26 h_b221_26 := by
    refine e2_indL (u := 2) (j := 2) (lo := 2147483648) (hi := 2147483657) (b := 2) (dd := 0) hl0 (by decide) rfl rfl (Or.inr ⟨rfl, rfl⟩) rfl ci_b221_26 cj_b221_26 ?_
    intro r_26 k_26 hk_26 hp_26 hs_26 hn_26
    have hl_26 : r_26.length ≤ 3 := hs_26.len rfl
    have ha_26 := ha.ext hp_26
    exact e2_fromM hen ha_26 hcall (e2_cutA_ok (e2_fa (fun al st E h hc => hn_26 al st E h hc) (e2_fa (fun al st E h hc => (EN_27 al st E h hc).ext hp_26) e2_fz))) (hC [192, 195]) (X := e2x_230) ex2_230 2 ck_b221_26
  have EN_26 := e2_entL (u := 2) (j := 2) (lo := 2147483648) (hi := 2147483657) hl0 rfl rfl rfl ci_b221_26 cj_b221_26 L_26
  exact e2_from hen ha hcall (e2_cutA_ok (e2_fa (fun al st E h hc => EN_26 al st E h hc) e2_fz)) (hC [192, 195]) (X := e2x_230) ex2_230 0 ck_b221_e
/-! b222 X10_read -/
def as_b222 : List ev_V := [(2, 83, 0), (11, 0, 4294967295)]
def E_b222 : e2_E := [(2147483648, 2147583648, 0, 0), (2147483650, 2147483650, 1, 0)]
def bc220 : ev_C := (50, [(11, 2147483649, 2147483654), (11, 2147483649, 2147483654), (11, 2147483648, 2147483654), (11, 2147483648, 2147483654), (11, 2147483648, 2147483654), (11, 2147483648, 2147483654), (11, 2147483648, 2147483654), (11, 2147483648, 2147483654), (11, 2147483648, 2147483654), (11, 2147483648, 2147483654), (11, 2147483648, 2147483654), (11, 2147483648, 2147483654), (11, 2147483648, 2147483654), (11, 2147483648, 2147483654), (11, 2147483648, 2147483654), (11, 2147483648, 2147483654)])
def bn1565 : e2_Q1 := (bc220, bc3)
def bn1566 : e2_Q2 := (bn130, bn1565)
def bn1567 : e2_Q3 := (bn129, bn1566)
def bn1568 : e2_Q4 := (bn1567, bn1335)
def bn1569 : e2_Q5 := (bn1568, bn156)
def bn1570 : e2_Q6 := (bn1569, bn1383)
def bn1571 : e2_Q7 := (bn1570, bn1356)
def bn1572 : e2_Q8 := (bn1373, bn1571)
noncomputable def f_b222 : ev_H := (bn1572 : e2_Q8)
noncomputable def q_b222_0 : ev_H := (bn1572 : e2_Q8)
noncomputable def rs_b222 : e2_Rs := [((11, 2147483647, 2147483668), q_b222_0)]
noncomputable def s_b222 : e2_Sm := (230, as_b222, E_b222, f_b222, rs_b222)
noncomputable def S_b222 : List e2_Sm := [s_b218]
noncomputable def I_b222 : List e2_In := [(216, 1, e2x_216), (217, 1, e2x_217), (227, 2, e2x_227)]
set_option maxRecDepth 1000000 in
theorem co_b222 : e2_okSB E_b222.length as_b222 f_b222 rs_b222 = true := by decide +kernel
def al_b222_26 : List ev_V := [(2, 83, 0), (11, 0, 4294967295), (1, 2, 4294967296), (9, 0, 0), (9, 0, 0)]
def E_b222_26 : e2_E := [(2147483648, 2147583648, 0, 0), (2147483650, 2147483650, 1, 0), (2147483648, 2147483657, 2, 0)]
noncomputable def h_b222_26 : ev_H := (bn1572 : e2_Q8)
def al_b222_27 : List ev_V := [(2, 83, 0), (11, 0, 4294967295), (1, 2, 4294967296), (9, 0, 0), (9, 0, 0)]
def E_b222_27 : e2_E := [(2147483648, 2147583648, 0, 0), (2147483650, 2147483650, 1, 0), (2147483647, 2147483667, 2, 0)]
noncomputable def h_b222_27 : ev_H := (bn1572 : e2_Q8)
def al_b222_28 : List ev_V := [(2, 83, 0), (11, 0, 4294967295), (1, 2, 4294967296), (1, 3, 4294967296), (9, 0, 0)]
def E_b222_28 : e2_E := [(2147483648, 2147583648, 0, 0), (2147483650, 2147483650, 1, 0), (2147483648, 2147483667, 2, 0), (2147483648, 2147483657, 3, 0)]
noncomputable def h_b222_28 : ev_H := (bn1572 : e2_Q8)
def bn1573 : e2_Q7 := (bn1570, bn1392)
def bn1574 : e2_Q8 := (bn1373, bn1573)
noncomputable def h_b222_0 : ev_H := (bn1574 : e2_Q8)
def bn1575 : e2_Q7 := (bn1570, bn1410)
def bn1576 : e2_Q8 := (bn1373, bn1575)
noncomputable def h_b222_1 : ev_H := (bn1576 : e2_Q8)
def bn1577 : e2_Q7 := (bn1570, bn1418)
def bn1578 : e2_Q8 := (bn1373, bn1577)
noncomputable def h_b222_2 : ev_H := (bn1578 : e2_Q8)
def bn1579 : e2_Q7 := (bn1570, bn1426)
def bn1580 : e2_Q8 := (bn1373, bn1579)
noncomputable def h_b222_3 : ev_H := (bn1580 : e2_Q8)
def bn1581 : e2_Q7 := (bn1570, bn1434)
def bn1582 : e2_Q8 := (bn1373, bn1581)
noncomputable def h_b222_4 : ev_H := (bn1582 : e2_Q8)
def bn1583 : e2_Q7 := (bn1570, bn1442)
def bn1584 : e2_Q8 := (bn1373, bn1583)
noncomputable def h_b222_5 : ev_H := (bn1584 : e2_Q8)
def bn1585 : e2_Q7 := (bn1570, bn1450)
def bn1586 : e2_Q8 := (bn1373, bn1585)
noncomputable def h_b222_6 : ev_H := (bn1586 : e2_Q8)
def bn1587 : e2_Q7 := (bn1570, bn1458)
def bn1588 : e2_Q8 := (bn1373, bn1587)
noncomputable def h_b222_7 : ev_H := (bn1588 : e2_Q8)
def bn1589 : e2_Q7 := (bn1570, bn1466)
def bn1590 : e2_Q8 := (bn1373, bn1589)
noncomputable def h_b222_8 : ev_H := (bn1590 : e2_Q8)
def bn1591 : e2_Q7 := (bn1570, bn1474)
def bn1592 : e2_Q8 := (bn1373, bn1591)
noncomputable def h_b222_9 : ev_H := (bn1592 : e2_Q8)
def bn1593 : e2_Q7 := (bn1570, bn1482)
def bn1594 : e2_Q8 := (bn1373, bn1593)
noncomputable def h_b222_10 : ev_H := (bn1594 : e2_Q8)
def bn1595 : e2_Q7 := (bn1570, bn1490)
def bn1596 : e2_Q8 := (bn1373, bn1595)
noncomputable def h_b222_11 : ev_H := (bn1596 : e2_Q8)
def bn1597 : e2_Q7 := (bn1570, bn1498)
def bn1598 : e2_Q8 := (bn1373, bn1597)
noncomputable def h_b222_12 : ev_H := (bn1598 : e2_Q8)
def bn1599 : e2_Q7 := (bn1570, bn1506)
def bn1600 : e2_Q8 := (bn1373, bn1599)
noncomputable def h_b222_13 : ev_H := (bn1600 : e2_Q8)
def bn1601 : e2_Q7 := (bn1570, bn1514)
def bn1602 : e2_Q8 := (bn1373, bn1601)
noncomputable def h_b222_14 : ev_H := (bn1602 : e2_Q8)
def bn1603 : e2_Q7 := (bn1570, bn1522)
def bn1604 : e2_Q8 := (bn1373, bn1603)
noncomputable def h_b222_15 : ev_H := (bn1604 : e2_Q8)
def bn1605 : e2_Q7 := (bn1570, bn1530)
def bn1606 : e2_Q8 := (bn1373, bn1605)
noncomputable def h_b222_16 : ev_H := (bn1606 : e2_Q8)
def bn1607 : e2_Q7 := (bn1570, bn1538)
def bn1608 : e2_Q8 := (bn1373, bn1607)
noncomputable def h_b222_17 : ev_H := (bn1608 : e2_Q8)
def bn1609 : e2_Q7 := (bn1570, bn1546)
def bn1610 : e2_Q8 := (bn1373, bn1609)
noncomputable def h_b222_18 : ev_H := (bn1610 : e2_Q8)
def bn1611 : e2_Q7 := (bn1570, bn1554)
def bn1612 : e2_Q8 := (bn1373, bn1611)
noncomputable def h_b222_19 : ev_H := (bn1612 : e2_Q8)
noncomputable def h_b222_20 : ev_H := (bn1572 : e2_Q8)
def bn1613 : e2_Q7 := (bn1570, bn1562)
def bn1614 : e2_Q8 := (bn1373, bn1613)
noncomputable def h_b222_21 : ev_H := (bn1614 : e2_Q8)
noncomputable def h_b222_22 : ev_H := (bn1614 : e2_Q8)
noncomputable def h_b222_23 : ev_H := (bn1614 : e2_Q8)
noncomputable def h_b222_24 : ev_H := (bn1614 : e2_Q8)
noncomputable def h_b222_25 : ev_H := (bn1614 : e2_Q8)
noncomputable def cu_b222_120 : List e2_Cu := [([(2, 83, 0), (11, 0, 4294967295), (0, 0, 0), (0, 8, 0), (9, 0, 0)], [(2147483648, 2147583648, 0, 0), (2147483650, 2147483650, 1, 0)], h_b222_0),
  ([(2, 83, 0), (11, 0, 4294967295), (0, 1, 0), (11, 2147483648, 2147483656), (11, 2147483647, 2147483649)], [(2147483648, 2147583648, 0, 0), (2147483650, 2147483650, 1, 0)], h_b222_1),
  ([(2, 83, 0), (11, 0, 4294967295), (0, 2, 0), (11, 2147483648, 2147483656), (11, 2147483647, 2147483649)], [(2147483648, 2147583648, 0, 0), (2147483650, 2147483650, 1, 0)], h_b222_2),
  ([(2, 83, 0), (11, 0, 4294967295), (0, 3, 0), (11, 2147483648, 2147483656), (11, 2147483647, 2147483649)], [(2147483648, 2147583648, 0, 0), (2147483650, 2147483650, 1, 0)], h_b222_3),
  ([(2, 83, 0), (11, 0, 4294967295), (0, 4, 0), (11, 2147483648, 2147483656), (11, 2147483647, 2147483649)], [(2147483648, 2147583648, 0, 0), (2147483650, 2147483650, 1, 0)], h_b222_4),
  ([(2, 83, 0), (11, 0, 4294967295), (0, 5, 0), (11, 2147483648, 2147483656), (11, 2147483647, 2147483649)], [(2147483648, 2147583648, 0, 0), (2147483650, 2147483650, 1, 0)], h_b222_5),
  ([(2, 83, 0), (11, 0, 4294967295), (0, 6, 0), (11, 2147483648, 2147483656), (11, 2147483647, 2147483649)], [(2147483648, 2147583648, 0, 0), (2147483650, 2147483650, 1, 0)], h_b222_6),
  ([(2, 83, 0), (11, 0, 4294967295), (0, 7, 0), (11, 2147483648, 2147483656), (11, 2147483647, 2147483649)], [(2147483648, 2147583648, 0, 0), (2147483650, 2147483650, 1, 0)], h_b222_7),
  ([(2, 83, 0), (11, 0, 4294967295), (0, 8, 0), (11, 2147483648, 2147483656), (11, 2147483647, 2147483649)], [(2147483648, 2147583648, 0, 0), (2147483650, 2147483650, 1, 0)], h_b222_8),
  ([(2, 83, 0), (11, 0, 4294967295), (0, 9, 0), (11, 2147483648, 2147483656), (11, 2147483647, 2147483649)], [(2147483648, 2147583648, 0, 0), (2147483650, 2147483650, 1, 0)], h_b222_9),
  ([(2, 83, 0), (11, 0, 4294967295), (0, 10, 0), (11, 2147483648, 2147483656), (11, 2147483647, 2147483649)], [(2147483648, 2147583648, 0, 0), (2147483650, 2147483650, 1, 0)], h_b222_10),
  ([(2, 83, 0), (11, 0, 4294967295), (0, 11, 0), (11, 2147483648, 2147483656), (11, 2147483647, 2147483649)], [(2147483648, 2147583648, 0, 0), (2147483650, 2147483650, 1, 0)], h_b222_11),
  ([(2, 83, 0), (11, 0, 4294967295), (0, 12, 0), (11, 2147483648, 2147483656), (11, 2147483647, 2147483649)], [(2147483648, 2147583648, 0, 0), (2147483650, 2147483650, 1, 0)], h_b222_12),
  ([(2, 83, 0), (11, 0, 4294967295), (0, 13, 0), (11, 2147483648, 2147483656), (11, 2147483647, 2147483649)], [(2147483648, 2147583648, 0, 0), (2147483650, 2147483650, 1, 0)], h_b222_13),
  ([(2, 83, 0), (11, 0, 4294967295), (0, 14, 0), (11, 2147483648, 2147483656), (11, 2147483647, 2147483649)], [(2147483648, 2147583648, 0, 0), (2147483650, 2147483650, 1, 0)], h_b222_14),
  ([(2, 83, 0), (11, 0, 4294967295), (0, 15, 0), (11, 2147483648, 2147483656), (11, 2147483647, 2147483649)], [(2147483648, 2147583648, 0, 0), (2147483650, 2147483650, 1, 0)], h_b222_15),
  ([(2, 83, 0), (11, 0, 4294967295), (0, 16, 0), (11, 2147483648, 2147483656), (11, 2147483647, 2147483649)], [(2147483648, 2147583648, 0, 0), (2147483650, 2147483650, 1, 0)], h_b222_16),
  ([(2, 83, 0), (11, 0, 4294967295), (0, 17, 0), (11, 2147483648, 2147483656), (11, 2147483647, 2147483649)], [(2147483648, 2147583648, 0, 0), (2147483650, 2147483650, 1, 0)], h_b222_17),
  ([(2, 83, 0), (11, 0, 4294967295), (0, 18, 0), (11, 2147483648, 2147483656), (11, 2147483647, 2147483649)], [(2147483648, 2147583648, 0, 0), (2147483650, 2147483650, 1, 0)], h_b222_18),
  ([(2, 83, 0), (11, 0, 4294967295), (0, 19, 0), (11, 2147483648, 2147483656), (11, 2147483647, 2147483649)], [(2147483648, 2147583648, 0, 0), (2147483650, 2147483650, 1, 0)], h_b222_19),
  ([(2, 83, 0), (11, 0, 4294967295), (0, 20, 0), (11, 2147483648, 2147483656), (11, 2147483647, 2147483649)], [(2147483648, 2147583648, 0, 0), (2147483650, 2147483650, 1, 0)], h_b222_20),
  ([(2, 83, 0), (11, 0, 4294967295), (0, 21, 0), (11, 2147483648, 2147483649), (11, 2147483648, 2147483649)], [(2147483648, 2147583648, 0, 0), (2147483650, 2147483650, 1, 0)], h_b222_21),
  ([(2, 83, 0), (11, 0, 4294967295), (0, 22, 0), (11, 2147483648, 2147483649), (11, 2147483648, 2147483649)], [(2147483648, 2147583648, 0, 0), (2147483650, 2147483650, 1, 0)], h_b222_22),
  ([(2, 83, 0), (11, 0, 4294967295), (0, 23, 0), (11, 2147483648, 2147483649), (11, 2147483648, 2147483649)], [(2147483648, 2147583648, 0, 0), (2147483650, 2147483650, 1, 0)], h_b222_23),
  ([(2, 83, 0), (11, 0, 4294967295), (0, 24, 0), (11, 2147483648, 2147483649), (11, 2147483648, 2147483649)], [(2147483648, 2147583648, 0, 0), (2147483650, 2147483650, 1, 0)], h_b222_24),
  ([(2, 83, 0), (11, 0, 4294967295), (0, 25, 0), (11, 2147483648, 2147483649), (11, 2147483648, 2147483649)], [(2147483648, 2147583648, 0, 0), (2147483650, 2147483650, 1, 0)], h_b222_25)]
noncomputable def cl_b222_e : List (Nat × e2_S) := [(2, e2_cutL (al_b222_26.set 2 (11, 2147483648, 2147483657)) 2 (E_b222_26.take 2) h_b222_26)]
set_option maxRecDepth 1000000 in
theorem ck_b222_e : e2_run (e2_orG 231 83 11 2 2147483648 2147483668 as_b219 Eb_b219 f_b219 rs_b219 (e2_cal S_b222 I_b222 4000 1)) (e2_fin rs_b222) e2x_230 (e2_bpL cl_b222_e) (e2_cutA cl_b222_e) 4000 (e2_seek e2x_230 0) (e2_al 5 as_b222) [] E_b222 f_b222 = true := by decide +kernel
noncomputable def cl_b222_26 : List (Nat × e2_S) := [(2, e2_cutL (al_b222_26.set 2 (13, 10, 2147483657)) 2 (E_b222_26.take 2) h_b222_26),
  (49, e2_cutL (al_b222_27.set 2 (11, 2147483647, 2147483667)) 2 (E_b222_27.take 2) h_b222_27)]
set_option maxRecDepth 1000000 in
theorem ck_b222_26 : e2_runM (e2_orG 231 83 11 2 2147483648 2147483668 as_b219 Eb_b219 f_b219 rs_b219 (e2_cal S_b222 I_b222 4000 1)) (e2_fin rs_b222) e2x_230 (e2_bpL cl_b222_26) (e2_cutA cl_b222_26) 4000 (e2_seek e2x_230 2) al_b222_26 [] E_b222_26 h_b222_26 = true := by decide +kernel
set_option maxRecDepth 1000000 in
theorem ci_b222_26 : e2_idl 2 (al_b222_26.set 2 (9, 0, 0)) = true := by decide +kernel
set_option maxRecDepth 1000000 in
theorem cj_b222_26 : e2_idh 2 8 h_b222_26 = true := by decide +kernel
noncomputable def cl_b222_27 : List (Nat × e2_S) := [(120, e2_cutS cu_b222_120),
  (55, e2_cutL (al_b222_28.set 3 (11, 2147483648, 2147483657)) 3 (E_b222_28.take 3) h_b222_28)]
set_option maxRecDepth 1000000 in
theorem ck_b222_27 : e2_runM (e2_orG 231 83 11 2 2147483648 2147483668 as_b219 Eb_b219 f_b219 rs_b219 (e2_cal S_b222 I_b222 4000 1)) (e2_fin rs_b222) e2x_230 (e2_bpL cl_b222_27) (e2_cutA cl_b222_27) 4000 (e2_seek e2x_230 49) al_b222_27 [] E_b222_27 h_b222_27 = true := by decide +kernel
set_option maxRecDepth 1000000 in
theorem ci_b222_27 : e2_idl 2 (al_b222_27.set 2 (9, 0, 0)) = true := by decide +kernel
set_option maxRecDepth 1000000 in
theorem cj_b222_27 : e2_idh 2 8 h_b222_27 = true := by decide +kernel
noncomputable def cl_b222_28 : List (Nat × e2_S) := [(49, e2_cutL (al_b222_27.set 2 (12, 10, 2147483647)) 2 (E_b222_27.take 2) h_b222_27),
  (55, e2_cutL (al_b222_28.set 3 (13, 11, 2147483657)) 3 (E_b222_28.take 3) h_b222_28)]
set_option maxRecDepth 1000000 in
theorem ck_b222_28 : e2_runM (e2_orG 231 83 11 2 2147483648 2147483668 as_b219 Eb_b219 f_b219 rs_b219 (e2_cal S_b222 I_b222 4000 1)) (e2_fin rs_b222) e2x_230 (e2_bpL cl_b222_28) (e2_cutA cl_b222_28) 4000 (e2_seek e2x_230 55) al_b222_28 [] E_b222_28 h_b222_28 = true := by decide +kernel
set_option maxRecDepth 1000000 in
theorem ci_b222_28 : e2_idl 3 (al_b222_28.set 3 (9, 0, 0)) = true := by decide +kernel
set_option maxRecDepth 1000000 in
theorem cj_b222_28 : e2_idh 3 8 h_b222_28 = true := by decide +kernel
set_option maxRecDepth 1000000 in
theorem ck_b222_u120 : e2_cutsB (e2_orG 231 83 11 2 2147483648 2147483668 as_b219 Eb_b219 f_b219 rs_b219 (e2_cal S_b222 I_b222 4000 1)) (e2_fin rs_b222) e2x_230 120 4000 cu_b222_120 = true := by decide +kernel
theorem cs_b222 (hen : en_ok) (l : Launch) : e2_smOk l 5 s_b222 := by
  refine e2_conC (H := 4) (C := evd_230) ei_230 (fun d hd => (e2_orG_ok (e2_cal_ok hen (e2_fa (cs_b218 hen l) e2_fz) (e2_fa ein_216 (e2_fa ein_217 (e2_fa ein_227 e2_fz))) 1 d (by omega)) rfl (by decide) (fun M hM => (cs_b219 hen l).2 M hM d (by omega)) (e2_okGB_ok cog_b219))) (by decide) co_b222 fun M d _ hC hcall p e R s m args below meth c Q D cA A ads r0 ha hl0 => ?_
  have EN_120 := e2_cutS_ok (bp := 120) (cuts := cu_b222_120) (e2_cuts_len hl0 (by decide +kernel)) (e2_cuts_ok hen ha hcall (hC [192, 195]) (X := e2x_230) ex2_230 (e2_cuts_len hl0 (by decide +kernel)) ck_b222_u120)
  have L_27 : e2_gdM M p l e R s m args below meth c Q D cA A ads r0 49 al_b222_27 [] E_b222_27 h_b222_27 := by
    refine e2_indD (u := 2) (j := 2) (lo := 2147483647) (hi := 2147483667) hl0 (by decide) rfl rfl rfl ci_b222_27 cj_b222_27 ?_
    intro r_27 k_27 hk_27 hp_27 hs_27 hn_27
    have hl_27 : r_27.length ≤ 3 := hs_27.len rfl
    have ha_27 := ha.ext hp_27
    have L_28 : e2_gdM M p l e R s m args below meth c Q D cA A ads r_27 55 al_b222_28 [] E_b222_28 h_b222_28 := by
      refine e2_indL (u := 3) (j := 3) (lo := 2147483648) (hi := 2147483657) (b := 3) (dd := 0) hl_27 (by decide) rfl rfl (Or.inr ⟨rfl, rfl⟩) rfl ci_b222_28 cj_b222_28 ?_
      intro r_28 k_28 hk_28 hp_28 hs_28 hn_28
      have hl_28 : r_28.length ≤ 4 := hs_28.len rfl
      have ha_28 := ha_27.ext hp_28
      exact e2_fromM hen ha_28 hcall (e2_cutA_ok (e2_fa (fun al st E h hc => (hn_27 al st E h hc).ext hp_28) (e2_fa (fun al st E h hc => hn_28 al st E h hc) e2_fz))) (hC [192, 195]) (X := e2x_230) ex2_230 55 ck_b222_28
    have EN_28 := e2_entL (u := 3) (j := 3) (lo := 2147483648) (hi := 2147483657) hl_27 rfl rfl rfl ci_b222_28 cj_b222_28 L_28
    exact e2_fromM hen ha_27 hcall (e2_cutA_ok (e2_fa (fun al st E h hc => (EN_120 al st E h hc).ext hp_27) (e2_fa (fun al st E h hc => EN_28 al st E h hc) e2_fz))) (hC [192, 195]) (X := e2x_230) ex2_230 49 ck_b222_27
  have EN_27 := e2_entL (u := 2) (j := 2) (lo := 2147483647) (hi := 2147483667) hl0 rfl rfl rfl ci_b222_27 cj_b222_27 L_27
  have L_26 : e2_gdM M p l e R s m args below meth c Q D cA A ads r0 2 al_b222_26 [] E_b222_26 h_b222_26 := by
    refine e2_indL (u := 2) (j := 2) (lo := 2147483648) (hi := 2147483657) (b := 2) (dd := 0) hl0 (by decide) rfl rfl (Or.inr ⟨rfl, rfl⟩) rfl ci_b222_26 cj_b222_26 ?_
    intro r_26 k_26 hk_26 hp_26 hs_26 hn_26
    have hl_26 : r_26.length ≤ 3 := hs_26.len rfl
    have ha_26 := ha.ext hp_26
    exact e2_fromM hen ha_26 hcall (e2_cutA_ok (e2_fa (fun al st E h hc => hn_26 al st E h hc) (e2_fa (fun al st E h hc => (EN_27 al st E h hc).ext hp_26) e2_fz))) (hC [192, 195]) (X := e2x_230) ex2_230 2 ck_b222_26
  have EN_26 := e2_entL (u := 2) (j := 2) (lo := 2147483648) (hi := 2147483657) hl0 rfl rfl rfl ci_b222_26 cj_b222_26 L_26
  exact e2_from hen ha hcall (e2_cutA_ok (e2_fa (fun al st E h hc => EN_26 al st E h hc) e2_fz)) (hC [192, 195]) (X := e2x_230) ex2_230 0 ck_b222_e
/-! b223 X10_read -/
def as_b223 : List ev_V := [(2, 83, 0), (11, 0, 4294967295)]
def E_b223 : e2_E := [(2147483648, 2147583648, 0, 0), (2147483651, 2147483651, 1, 0)]
def bc221 : ev_C := (50, [(11, 2147483649, 2147483654), (11, 2147483649, 2147483654), (11, 2147483649, 2147483654), (11, 2147483648, 2147483654), (11, 2147483648, 2147483654), (11, 2147483648, 2147483654), (11, 2147483648, 2147483654), (11, 2147483648, 2147483654), (11, 2147483648, 2147483654), (11, 2147483648, 2147483654), (11, 2147483648, 2147483654), (11, 2147483648, 2147483654), (11, 2147483648, 2147483654), (11, 2147483648, 2147483654), (11, 2147483648, 2147483654), (11, 2147483648, 2147483654)])
def bn1615 : e2_Q1 := (bc221, bc3)
def bn1616 : e2_Q2 := (bn130, bn1615)
def bn1617 : e2_Q3 := (bn129, bn1616)
def bn1618 : e2_Q4 := (bn1617, bn1335)
def bn1619 : e2_Q5 := (bn1618, bn156)
def bn1620 : e2_Q6 := (bn1619, bn1383)
def bn1621 : e2_Q7 := (bn1620, bn1356)
def bn1622 : e2_Q8 := (bn1373, bn1621)
noncomputable def f_b223 : ev_H := (bn1622 : e2_Q8)
noncomputable def q_b223_0 : ev_H := (bn1622 : e2_Q8)
noncomputable def rs_b223 : e2_Rs := [((11, 2147483647, 2147483668), q_b223_0)]
noncomputable def s_b223 : e2_Sm := (230, as_b223, E_b223, f_b223, rs_b223)
noncomputable def S_b223 : List e2_Sm := [s_b218]
noncomputable def I_b223 : List e2_In := [(216, 1, e2x_216), (217, 1, e2x_217), (227, 2, e2x_227)]
set_option maxRecDepth 1000000 in
theorem co_b223 : e2_okSB E_b223.length as_b223 f_b223 rs_b223 = true := by decide +kernel
def al_b223_26 : List ev_V := [(2, 83, 0), (11, 0, 4294967295), (1, 2, 4294967296), (9, 0, 0), (9, 0, 0)]
def E_b223_26 : e2_E := [(2147483648, 2147583648, 0, 0), (2147483651, 2147483651, 1, 0), (2147483648, 2147483657, 2, 0)]
noncomputable def h_b223_26 : ev_H := (bn1622 : e2_Q8)
def al_b223_27 : List ev_V := [(2, 83, 0), (11, 0, 4294967295), (1, 2, 4294967296), (9, 0, 0), (9, 0, 0)]
def E_b223_27 : e2_E := [(2147483648, 2147583648, 0, 0), (2147483651, 2147483651, 1, 0), (2147483647, 2147483667, 2, 0)]
noncomputable def h_b223_27 : ev_H := (bn1622 : e2_Q8)
def al_b223_28 : List ev_V := [(2, 83, 0), (11, 0, 4294967295), (1, 2, 4294967296), (1, 3, 4294967296), (9, 0, 0)]
def E_b223_28 : e2_E := [(2147483648, 2147583648, 0, 0), (2147483651, 2147483651, 1, 0), (2147483648, 2147483667, 2, 0), (2147483648, 2147483657, 3, 0)]
noncomputable def h_b223_28 : ev_H := (bn1622 : e2_Q8)
def bn1623 : e2_Q7 := (bn1620, bn1392)
def bn1624 : e2_Q8 := (bn1373, bn1623)
noncomputable def h_b223_0 : ev_H := (bn1624 : e2_Q8)
def bn1625 : e2_Q7 := (bn1620, bn1410)
def bn1626 : e2_Q8 := (bn1373, bn1625)
noncomputable def h_b223_1 : ev_H := (bn1626 : e2_Q8)
def bn1627 : e2_Q7 := (bn1620, bn1418)
def bn1628 : e2_Q8 := (bn1373, bn1627)
noncomputable def h_b223_2 : ev_H := (bn1628 : e2_Q8)
def bn1629 : e2_Q7 := (bn1620, bn1426)
def bn1630 : e2_Q8 := (bn1373, bn1629)
noncomputable def h_b223_3 : ev_H := (bn1630 : e2_Q8)
def bn1631 : e2_Q7 := (bn1620, bn1434)
def bn1632 : e2_Q8 := (bn1373, bn1631)
noncomputable def h_b223_4 : ev_H := (bn1632 : e2_Q8)
def bn1633 : e2_Q7 := (bn1620, bn1442)
def bn1634 : e2_Q8 := (bn1373, bn1633)
noncomputable def h_b223_5 : ev_H := (bn1634 : e2_Q8)
def bn1635 : e2_Q7 := (bn1620, bn1450)
def bn1636 : e2_Q8 := (bn1373, bn1635)
noncomputable def h_b223_6 : ev_H := (bn1636 : e2_Q8)
def bn1637 : e2_Q7 := (bn1620, bn1458)
def bn1638 : e2_Q8 := (bn1373, bn1637)
noncomputable def h_b223_7 : ev_H := (bn1638 : e2_Q8)
def bn1639 : e2_Q7 := (bn1620, bn1466)
def bn1640 : e2_Q8 := (bn1373, bn1639)
noncomputable def h_b223_8 : ev_H := (bn1640 : e2_Q8)
def bn1641 : e2_Q7 := (bn1620, bn1474)
def bn1642 : e2_Q8 := (bn1373, bn1641)
noncomputable def h_b223_9 : ev_H := (bn1642 : e2_Q8)
def bn1643 : e2_Q7 := (bn1620, bn1482)
def bn1644 : e2_Q8 := (bn1373, bn1643)
noncomputable def h_b223_10 : ev_H := (bn1644 : e2_Q8)
def bn1645 : e2_Q7 := (bn1620, bn1490)
def bn1646 : e2_Q8 := (bn1373, bn1645)
noncomputable def h_b223_11 : ev_H := (bn1646 : e2_Q8)
def bn1647 : e2_Q7 := (bn1620, bn1498)
def bn1648 : e2_Q8 := (bn1373, bn1647)
noncomputable def h_b223_12 : ev_H := (bn1648 : e2_Q8)
def bn1649 : e2_Q7 := (bn1620, bn1506)
def bn1650 : e2_Q8 := (bn1373, bn1649)
noncomputable def h_b223_13 : ev_H := (bn1650 : e2_Q8)
def bn1651 : e2_Q7 := (bn1620, bn1514)
def bn1652 : e2_Q8 := (bn1373, bn1651)
noncomputable def h_b223_14 : ev_H := (bn1652 : e2_Q8)
def bn1653 : e2_Q7 := (bn1620, bn1522)
def bn1654 : e2_Q8 := (bn1373, bn1653)
noncomputable def h_b223_15 : ev_H := (bn1654 : e2_Q8)
def bn1655 : e2_Q7 := (bn1620, bn1530)
def bn1656 : e2_Q8 := (bn1373, bn1655)
noncomputable def h_b223_16 : ev_H := (bn1656 : e2_Q8)
def bn1657 : e2_Q7 := (bn1620, bn1538)
def bn1658 : e2_Q8 := (bn1373, bn1657)
noncomputable def h_b223_17 : ev_H := (bn1658 : e2_Q8)
def bn1659 : e2_Q7 := (bn1620, bn1546)
def bn1660 : e2_Q8 := (bn1373, bn1659)
noncomputable def h_b223_18 : ev_H := (bn1660 : e2_Q8)
def bn1661 : e2_Q7 := (bn1620, bn1554)
def bn1662 : e2_Q8 := (bn1373, bn1661)
noncomputable def h_b223_19 : ev_H := (bn1662 : e2_Q8)
noncomputable def h_b223_20 : ev_H := (bn1622 : e2_Q8)
def bn1663 : e2_Q7 := (bn1620, bn1562)
def bn1664 : e2_Q8 := (bn1373, bn1663)
noncomputable def h_b223_21 : ev_H := (bn1664 : e2_Q8)
noncomputable def h_b223_22 : ev_H := (bn1664 : e2_Q8)
noncomputable def h_b223_23 : ev_H := (bn1664 : e2_Q8)
noncomputable def h_b223_24 : ev_H := (bn1664 : e2_Q8)
noncomputable def h_b223_25 : ev_H := (bn1664 : e2_Q8)
noncomputable def cu_b223_120 : List e2_Cu := [([(2, 83, 0), (11, 0, 4294967295), (0, 0, 0), (0, 8, 0), (9, 0, 0)], [(2147483648, 2147583648, 0, 0), (2147483651, 2147483651, 1, 0)], h_b223_0),
  ([(2, 83, 0), (11, 0, 4294967295), (0, 1, 0), (11, 2147483648, 2147483656), (11, 2147483647, 2147483650)], [(2147483648, 2147583648, 0, 0), (2147483651, 2147483651, 1, 0)], h_b223_1),
  ([(2, 83, 0), (11, 0, 4294967295), (0, 2, 0), (11, 2147483648, 2147483656), (11, 2147483647, 2147483650)], [(2147483648, 2147583648, 0, 0), (2147483651, 2147483651, 1, 0)], h_b223_2),
  ([(2, 83, 0), (11, 0, 4294967295), (0, 3, 0), (11, 2147483648, 2147483656), (11, 2147483647, 2147483650)], [(2147483648, 2147583648, 0, 0), (2147483651, 2147483651, 1, 0)], h_b223_3),
  ([(2, 83, 0), (11, 0, 4294967295), (0, 4, 0), (11, 2147483648, 2147483656), (11, 2147483647, 2147483650)], [(2147483648, 2147583648, 0, 0), (2147483651, 2147483651, 1, 0)], h_b223_4),
  ([(2, 83, 0), (11, 0, 4294967295), (0, 5, 0), (11, 2147483648, 2147483656), (11, 2147483647, 2147483650)], [(2147483648, 2147583648, 0, 0), (2147483651, 2147483651, 1, 0)], h_b223_5),
  ([(2, 83, 0), (11, 0, 4294967295), (0, 6, 0), (11, 2147483648, 2147483656), (11, 2147483647, 2147483650)], [(2147483648, 2147583648, 0, 0), (2147483651, 2147483651, 1, 0)], h_b223_6),
  ([(2, 83, 0), (11, 0, 4294967295), (0, 7, 0), (11, 2147483648, 2147483656), (11, 2147483647, 2147483650)], [(2147483648, 2147583648, 0, 0), (2147483651, 2147483651, 1, 0)], h_b223_7),
  ([(2, 83, 0), (11, 0, 4294967295), (0, 8, 0), (11, 2147483648, 2147483656), (11, 2147483647, 2147483650)], [(2147483648, 2147583648, 0, 0), (2147483651, 2147483651, 1, 0)], h_b223_8),
  ([(2, 83, 0), (11, 0, 4294967295), (0, 9, 0), (11, 2147483648, 2147483656), (11, 2147483647, 2147483650)], [(2147483648, 2147583648, 0, 0), (2147483651, 2147483651, 1, 0)], h_b223_9),
  ([(2, 83, 0), (11, 0, 4294967295), (0, 10, 0), (11, 2147483648, 2147483656), (11, 2147483647, 2147483650)], [(2147483648, 2147583648, 0, 0), (2147483651, 2147483651, 1, 0)], h_b223_10),
  ([(2, 83, 0), (11, 0, 4294967295), (0, 11, 0), (11, 2147483648, 2147483656), (11, 2147483647, 2147483650)], [(2147483648, 2147583648, 0, 0), (2147483651, 2147483651, 1, 0)], h_b223_11),
  ([(2, 83, 0), (11, 0, 4294967295), (0, 12, 0), (11, 2147483648, 2147483656), (11, 2147483647, 2147483650)], [(2147483648, 2147583648, 0, 0), (2147483651, 2147483651, 1, 0)], h_b223_12),
  ([(2, 83, 0), (11, 0, 4294967295), (0, 13, 0), (11, 2147483648, 2147483656), (11, 2147483647, 2147483650)], [(2147483648, 2147583648, 0, 0), (2147483651, 2147483651, 1, 0)], h_b223_13),
  ([(2, 83, 0), (11, 0, 4294967295), (0, 14, 0), (11, 2147483648, 2147483656), (11, 2147483647, 2147483650)], [(2147483648, 2147583648, 0, 0), (2147483651, 2147483651, 1, 0)], h_b223_14),
  ([(2, 83, 0), (11, 0, 4294967295), (0, 15, 0), (11, 2147483648, 2147483656), (11, 2147483647, 2147483650)], [(2147483648, 2147583648, 0, 0), (2147483651, 2147483651, 1, 0)], h_b223_15),
  ([(2, 83, 0), (11, 0, 4294967295), (0, 16, 0), (11, 2147483648, 2147483656), (11, 2147483647, 2147483650)], [(2147483648, 2147583648, 0, 0), (2147483651, 2147483651, 1, 0)], h_b223_16),
  ([(2, 83, 0), (11, 0, 4294967295), (0, 17, 0), (11, 2147483648, 2147483656), (11, 2147483647, 2147483650)], [(2147483648, 2147583648, 0, 0), (2147483651, 2147483651, 1, 0)], h_b223_17),
  ([(2, 83, 0), (11, 0, 4294967295), (0, 18, 0), (11, 2147483648, 2147483656), (11, 2147483647, 2147483650)], [(2147483648, 2147583648, 0, 0), (2147483651, 2147483651, 1, 0)], h_b223_18),
  ([(2, 83, 0), (11, 0, 4294967295), (0, 19, 0), (11, 2147483648, 2147483656), (11, 2147483647, 2147483650)], [(2147483648, 2147583648, 0, 0), (2147483651, 2147483651, 1, 0)], h_b223_19),
  ([(2, 83, 0), (11, 0, 4294967295), (0, 20, 0), (11, 2147483648, 2147483656), (11, 2147483647, 2147483650)], [(2147483648, 2147583648, 0, 0), (2147483651, 2147483651, 1, 0)], h_b223_20),
  ([(2, 83, 0), (11, 0, 4294967295), (0, 21, 0), (11, 2147483648, 2147483650), (11, 2147483648, 2147483650)], [(2147483648, 2147583648, 0, 0), (2147483651, 2147483651, 1, 0)], h_b223_21),
  ([(2, 83, 0), (11, 0, 4294967295), (0, 22, 0), (11, 2147483648, 2147483650), (11, 2147483648, 2147483650)], [(2147483648, 2147583648, 0, 0), (2147483651, 2147483651, 1, 0)], h_b223_22),
  ([(2, 83, 0), (11, 0, 4294967295), (0, 23, 0), (11, 2147483648, 2147483650), (11, 2147483648, 2147483650)], [(2147483648, 2147583648, 0, 0), (2147483651, 2147483651, 1, 0)], h_b223_23),
  ([(2, 83, 0), (11, 0, 4294967295), (0, 24, 0), (11, 2147483648, 2147483650), (11, 2147483648, 2147483650)], [(2147483648, 2147583648, 0, 0), (2147483651, 2147483651, 1, 0)], h_b223_24),
  ([(2, 83, 0), (11, 0, 4294967295), (0, 25, 0), (11, 2147483648, 2147483650), (11, 2147483648, 2147483650)], [(2147483648, 2147583648, 0, 0), (2147483651, 2147483651, 1, 0)], h_b223_25)]
noncomputable def cl_b223_e : List (Nat × e2_S) := [(2, e2_cutL (al_b223_26.set 2 (11, 2147483648, 2147483657)) 2 (E_b223_26.take 2) h_b223_26)]
set_option maxRecDepth 1000000 in
theorem ck_b223_e : e2_run (e2_orG 231 83 11 2 2147483648 2147483668 as_b219 Eb_b219 f_b219 rs_b219 (e2_cal S_b223 I_b223 4000 1)) (e2_fin rs_b223) e2x_230 (e2_bpL cl_b223_e) (e2_cutA cl_b223_e) 4000 (e2_seek e2x_230 0) (e2_al 5 as_b223) [] E_b223 f_b223 = true := by decide +kernel
noncomputable def cl_b223_26 : List (Nat × e2_S) := [(2, e2_cutL (al_b223_26.set 2 (13, 10, 2147483657)) 2 (E_b223_26.take 2) h_b223_26),
  (49, e2_cutL (al_b223_27.set 2 (11, 2147483647, 2147483667)) 2 (E_b223_27.take 2) h_b223_27)]
set_option maxRecDepth 1000000 in
theorem ck_b223_26 : e2_runM (e2_orG 231 83 11 2 2147483648 2147483668 as_b219 Eb_b219 f_b219 rs_b219 (e2_cal S_b223 I_b223 4000 1)) (e2_fin rs_b223) e2x_230 (e2_bpL cl_b223_26) (e2_cutA cl_b223_26) 4000 (e2_seek e2x_230 2) al_b223_26 [] E_b223_26 h_b223_26 = true := by decide +kernel
set_option maxRecDepth 1000000 in
theorem ci_b223_26 : e2_idl 2 (al_b223_26.set 2 (9, 0, 0)) = true := by decide +kernel
set_option maxRecDepth 1000000 in
theorem cj_b223_26 : e2_idh 2 8 h_b223_26 = true := by decide +kernel
noncomputable def cl_b223_27 : List (Nat × e2_S) := [(120, e2_cutS cu_b223_120),
  (55, e2_cutL (al_b223_28.set 3 (11, 2147483648, 2147483657)) 3 (E_b223_28.take 3) h_b223_28)]
set_option maxRecDepth 1000000 in
theorem ck_b223_27 : e2_runM (e2_orG 231 83 11 2 2147483648 2147483668 as_b219 Eb_b219 f_b219 rs_b219 (e2_cal S_b223 I_b223 4000 1)) (e2_fin rs_b223) e2x_230 (e2_bpL cl_b223_27) (e2_cutA cl_b223_27) 4000 (e2_seek e2x_230 49) al_b223_27 [] E_b223_27 h_b223_27 = true := by decide +kernel
set_option maxRecDepth 1000000 in
theorem ci_b223_27 : e2_idl 2 (al_b223_27.set 2 (9, 0, 0)) = true := by decide +kernel
set_option maxRecDepth 1000000 in
theorem cj_b223_27 : e2_idh 2 8 h_b223_27 = true := by decide +kernel
noncomputable def cl_b223_28 : List (Nat × e2_S) := [(49, e2_cutL (al_b223_27.set 2 (12, 10, 2147483647)) 2 (E_b223_27.take 2) h_b223_27),
  (55, e2_cutL (al_b223_28.set 3 (13, 11, 2147483657)) 3 (E_b223_28.take 3) h_b223_28)]
set_option maxRecDepth 1000000 in
theorem ck_b223_28 : e2_runM (e2_orG 231 83 11 2 2147483648 2147483668 as_b219 Eb_b219 f_b219 rs_b219 (e2_cal S_b223 I_b223 4000 1)) (e2_fin rs_b223) e2x_230 (e2_bpL cl_b223_28) (e2_cutA cl_b223_28) 4000 (e2_seek e2x_230 55) al_b223_28 [] E_b223_28 h_b223_28 = true := by decide +kernel
set_option maxRecDepth 1000000 in
theorem ci_b223_28 : e2_idl 3 (al_b223_28.set 3 (9, 0, 0)) = true := by decide +kernel
set_option maxRecDepth 1000000 in
theorem cj_b223_28 : e2_idh 3 8 h_b223_28 = true := by decide +kernel
set_option maxRecDepth 1000000 in
theorem ck_b223_u120 : e2_cutsB (e2_orG 231 83 11 2 2147483648 2147483668 as_b219 Eb_b219 f_b219 rs_b219 (e2_cal S_b223 I_b223 4000 1)) (e2_fin rs_b223) e2x_230 120 4000 cu_b223_120 = true := by decide +kernel
theorem cs_b223 (hen : en_ok) (l : Launch) : e2_smOk l 5 s_b223 := by
  refine e2_conC (H := 4) (C := evd_230) ei_230 (fun d hd => (e2_orG_ok (e2_cal_ok hen (e2_fa (cs_b218 hen l) e2_fz) (e2_fa ein_216 (e2_fa ein_217 (e2_fa ein_227 e2_fz))) 1 d (by omega)) rfl (by decide) (fun M hM => (cs_b219 hen l).2 M hM d (by omega)) (e2_okGB_ok cog_b219))) (by decide) co_b223 fun M d _ hC hcall p e R s m args below meth c Q D cA A ads r0 ha hl0 => ?_
  have EN_120 := e2_cutS_ok (bp := 120) (cuts := cu_b223_120) (e2_cuts_len hl0 (by decide +kernel)) (e2_cuts_ok hen ha hcall (hC [192, 195]) (X := e2x_230) ex2_230 (e2_cuts_len hl0 (by decide +kernel)) ck_b223_u120)
  have L_27 : e2_gdM M p l e R s m args below meth c Q D cA A ads r0 49 al_b223_27 [] E_b223_27 h_b223_27 := by
    refine e2_indD (u := 2) (j := 2) (lo := 2147483647) (hi := 2147483667) hl0 (by decide) rfl rfl rfl ci_b223_27 cj_b223_27 ?_
    intro r_27 k_27 hk_27 hp_27 hs_27 hn_27
    have hl_27 : r_27.length ≤ 3 := hs_27.len rfl
    have ha_27 := ha.ext hp_27
    have L_28 : e2_gdM M p l e R s m args below meth c Q D cA A ads r_27 55 al_b223_28 [] E_b223_28 h_b223_28 := by
      refine e2_indL (u := 3) (j := 3) (lo := 2147483648) (hi := 2147483657) (b := 3) (dd := 0) hl_27 (by decide) rfl rfl (Or.inr ⟨rfl, rfl⟩) rfl ci_b223_28 cj_b223_28 ?_
      intro r_28 k_28 hk_28 hp_28 hs_28 hn_28
      have hl_28 : r_28.length ≤ 4 := hs_28.len rfl
      have ha_28 := ha_27.ext hp_28
      exact e2_fromM hen ha_28 hcall (e2_cutA_ok (e2_fa (fun al st E h hc => (hn_27 al st E h hc).ext hp_28) (e2_fa (fun al st E h hc => hn_28 al st E h hc) e2_fz))) (hC [192, 195]) (X := e2x_230) ex2_230 55 ck_b223_28
    have EN_28 := e2_entL (u := 3) (j := 3) (lo := 2147483648) (hi := 2147483657) hl_27 rfl rfl rfl ci_b223_28 cj_b223_28 L_28
    exact e2_fromM hen ha_27 hcall (e2_cutA_ok (e2_fa (fun al st E h hc => (EN_120 al st E h hc).ext hp_27) (e2_fa (fun al st E h hc => EN_28 al st E h hc) e2_fz))) (hC [192, 195]) (X := e2x_230) ex2_230 49 ck_b223_27
  have EN_27 := e2_entL (u := 2) (j := 2) (lo := 2147483647) (hi := 2147483667) hl0 rfl rfl rfl ci_b223_27 cj_b223_27 L_27
  have L_26 : e2_gdM M p l e R s m args below meth c Q D cA A ads r0 2 al_b223_26 [] E_b223_26 h_b223_26 := by
    refine e2_indL (u := 2) (j := 2) (lo := 2147483648) (hi := 2147483657) (b := 2) (dd := 0) hl0 (by decide) rfl rfl (Or.inr ⟨rfl, rfl⟩) rfl ci_b223_26 cj_b223_26 ?_
    intro r_26 k_26 hk_26 hp_26 hs_26 hn_26
    have hl_26 : r_26.length ≤ 3 := hs_26.len rfl
    have ha_26 := ha.ext hp_26
    exact e2_fromM hen ha_26 hcall (e2_cutA_ok (e2_fa (fun al st E h hc => hn_26 al st E h hc) (e2_fa (fun al st E h hc => (EN_27 al st E h hc).ext hp_26) e2_fz))) (hC [192, 195]) (X := e2x_230) ex2_230 2 ck_b223_26
  have EN_26 := e2_entL (u := 2) (j := 2) (lo := 2147483648) (hi := 2147483657) hl0 rfl rfl rfl ci_b223_26 cj_b223_26 L_26
  exact e2_from hen ha hcall (e2_cutA_ok (e2_fa (fun al st E h hc => EN_26 al st E h hc) e2_fz)) (hC [192, 195]) (X := e2x_230) ex2_230 0 ck_b223_e
/-! b224 X10_read -/
def as_b224 : List ev_V := [(2, 83, 0), (11, 0, 4294967295)]
def E_b224 : e2_E := [(2147483648, 2147583648, 0, 0), (2147483652, 2147483652, 1, 0)]
def bc222 : ev_C := (50, [(11, 2147483649, 2147483654), (11, 2147483649, 2147483654), (11, 2147483649, 2147483654), (11, 2147483649, 2147483654), (11, 2147483648, 2147483654), (11, 2147483648, 2147483654), (11, 2147483648, 2147483654), (11, 2147483648, 2147483654), (11, 2147483648, 2147483654), (11, 2147483648, 2147483654), (11, 2147483648, 2147483654), (11, 2147483648, 2147483654), (11, 2147483648, 2147483654), (11, 2147483648, 2147483654), (11, 2147483648, 2147483654), (11, 2147483648, 2147483654)])
def bn1665 : e2_Q1 := (bc222, bc3)
def bn1666 : e2_Q2 := (bn130, bn1665)
def bn1667 : e2_Q3 := (bn129, bn1666)
def bn1668 : e2_Q4 := (bn1667, bn1335)
def bn1669 : e2_Q5 := (bn1668, bn156)
def bn1670 : e2_Q6 := (bn1669, bn1383)
def bn1671 : e2_Q7 := (bn1670, bn1356)
def bn1672 : e2_Q8 := (bn1373, bn1671)
noncomputable def f_b224 : ev_H := (bn1672 : e2_Q8)
noncomputable def q_b224_0 : ev_H := (bn1672 : e2_Q8)
noncomputable def rs_b224 : e2_Rs := [((11, 2147483647, 2147483668), q_b224_0)]
noncomputable def s_b224 : e2_Sm := (230, as_b224, E_b224, f_b224, rs_b224)
noncomputable def S_b224 : List e2_Sm := [s_b218]
noncomputable def I_b224 : List e2_In := [(216, 1, e2x_216), (217, 1, e2x_217), (227, 2, e2x_227)]
set_option maxRecDepth 1000000 in
theorem co_b224 : e2_okSB E_b224.length as_b224 f_b224 rs_b224 = true := by decide +kernel
def al_b224_26 : List ev_V := [(2, 83, 0), (11, 0, 4294967295), (1, 2, 4294967296), (9, 0, 0), (9, 0, 0)]
def E_b224_26 : e2_E := [(2147483648, 2147583648, 0, 0), (2147483652, 2147483652, 1, 0), (2147483648, 2147483657, 2, 0)]
noncomputable def h_b224_26 : ev_H := (bn1672 : e2_Q8)
def al_b224_27 : List ev_V := [(2, 83, 0), (11, 0, 4294967295), (1, 2, 4294967296), (9, 0, 0), (9, 0, 0)]
def E_b224_27 : e2_E := [(2147483648, 2147583648, 0, 0), (2147483652, 2147483652, 1, 0), (2147483647, 2147483667, 2, 0)]
noncomputable def h_b224_27 : ev_H := (bn1672 : e2_Q8)
def al_b224_28 : List ev_V := [(2, 83, 0), (11, 0, 4294967295), (1, 2, 4294967296), (1, 3, 4294967296), (9, 0, 0)]
def E_b224_28 : e2_E := [(2147483648, 2147583648, 0, 0), (2147483652, 2147483652, 1, 0), (2147483648, 2147483667, 2, 0), (2147483648, 2147483657, 3, 0)]
noncomputable def h_b224_28 : ev_H := (bn1672 : e2_Q8)
def bn1673 : e2_Q7 := (bn1670, bn1392)
def bn1674 : e2_Q8 := (bn1373, bn1673)
noncomputable def h_b224_0 : ev_H := (bn1674 : e2_Q8)
def bn1675 : e2_Q7 := (bn1670, bn1410)
def bn1676 : e2_Q8 := (bn1373, bn1675)
noncomputable def h_b224_1 : ev_H := (bn1676 : e2_Q8)
def bn1677 : e2_Q7 := (bn1670, bn1418)
def bn1678 : e2_Q8 := (bn1373, bn1677)
noncomputable def h_b224_2 : ev_H := (bn1678 : e2_Q8)
def bn1679 : e2_Q7 := (bn1670, bn1426)
def bn1680 : e2_Q8 := (bn1373, bn1679)
noncomputable def h_b224_3 : ev_H := (bn1680 : e2_Q8)
def bn1681 : e2_Q7 := (bn1670, bn1434)
def bn1682 : e2_Q8 := (bn1373, bn1681)
noncomputable def h_b224_4 : ev_H := (bn1682 : e2_Q8)
def bn1683 : e2_Q7 := (bn1670, bn1442)
def bn1684 : e2_Q8 := (bn1373, bn1683)
noncomputable def h_b224_5 : ev_H := (bn1684 : e2_Q8)
def bn1685 : e2_Q7 := (bn1670, bn1450)
def bn1686 : e2_Q8 := (bn1373, bn1685)
noncomputable def h_b224_6 : ev_H := (bn1686 : e2_Q8)
def bn1687 : e2_Q7 := (bn1670, bn1458)
def bn1688 : e2_Q8 := (bn1373, bn1687)
noncomputable def h_b224_7 : ev_H := (bn1688 : e2_Q8)
def bn1689 : e2_Q7 := (bn1670, bn1466)
def bn1690 : e2_Q8 := (bn1373, bn1689)
noncomputable def h_b224_8 : ev_H := (bn1690 : e2_Q8)
def bn1691 : e2_Q7 := (bn1670, bn1474)
def bn1692 : e2_Q8 := (bn1373, bn1691)
noncomputable def h_b224_9 : ev_H := (bn1692 : e2_Q8)
def bn1693 : e2_Q7 := (bn1670, bn1482)
def bn1694 : e2_Q8 := (bn1373, bn1693)
noncomputable def h_b224_10 : ev_H := (bn1694 : e2_Q8)
def bn1695 : e2_Q7 := (bn1670, bn1490)
def bn1696 : e2_Q8 := (bn1373, bn1695)
noncomputable def h_b224_11 : ev_H := (bn1696 : e2_Q8)
def bn1697 : e2_Q7 := (bn1670, bn1498)
def bn1698 : e2_Q8 := (bn1373, bn1697)
noncomputable def h_b224_12 : ev_H := (bn1698 : e2_Q8)
def bn1699 : e2_Q7 := (bn1670, bn1506)
def bn1700 : e2_Q8 := (bn1373, bn1699)
noncomputable def h_b224_13 : ev_H := (bn1700 : e2_Q8)
def bn1701 : e2_Q7 := (bn1670, bn1514)
def bn1702 : e2_Q8 := (bn1373, bn1701)
noncomputable def h_b224_14 : ev_H := (bn1702 : e2_Q8)
def bn1703 : e2_Q7 := (bn1670, bn1522)
def bn1704 : e2_Q8 := (bn1373, bn1703)
noncomputable def h_b224_15 : ev_H := (bn1704 : e2_Q8)
def bn1705 : e2_Q7 := (bn1670, bn1530)
def bn1706 : e2_Q8 := (bn1373, bn1705)
noncomputable def h_b224_16 : ev_H := (bn1706 : e2_Q8)
def bn1707 : e2_Q7 := (bn1670, bn1538)
def bn1708 : e2_Q8 := (bn1373, bn1707)
noncomputable def h_b224_17 : ev_H := (bn1708 : e2_Q8)
def bn1709 : e2_Q7 := (bn1670, bn1546)
def bn1710 : e2_Q8 := (bn1373, bn1709)
noncomputable def h_b224_18 : ev_H := (bn1710 : e2_Q8)
def bn1711 : e2_Q7 := (bn1670, bn1554)
def bn1712 : e2_Q8 := (bn1373, bn1711)
noncomputable def h_b224_19 : ev_H := (bn1712 : e2_Q8)
noncomputable def h_b224_20 : ev_H := (bn1672 : e2_Q8)
def bn1713 : e2_Q7 := (bn1670, bn1562)
def bn1714 : e2_Q8 := (bn1373, bn1713)
noncomputable def h_b224_21 : ev_H := (bn1714 : e2_Q8)
noncomputable def h_b224_22 : ev_H := (bn1714 : e2_Q8)
noncomputable def h_b224_23 : ev_H := (bn1714 : e2_Q8)
noncomputable def h_b224_24 : ev_H := (bn1714 : e2_Q8)
noncomputable def h_b224_25 : ev_H := (bn1714 : e2_Q8)
noncomputable def cu_b224_120 : List e2_Cu := [([(2, 83, 0), (11, 0, 4294967295), (0, 0, 0), (0, 8, 0), (9, 0, 0)], [(2147483648, 2147583648, 0, 0), (2147483652, 2147483652, 1, 0)], h_b224_0),
  ([(2, 83, 0), (11, 0, 4294967295), (0, 1, 0), (11, 2147483648, 2147483656), (11, 2147483647, 2147483651)], [(2147483648, 2147583648, 0, 0), (2147483652, 2147483652, 1, 0)], h_b224_1),
  ([(2, 83, 0), (11, 0, 4294967295), (0, 2, 0), (11, 2147483648, 2147483656), (11, 2147483647, 2147483651)], [(2147483648, 2147583648, 0, 0), (2147483652, 2147483652, 1, 0)], h_b224_2),
  ([(2, 83, 0), (11, 0, 4294967295), (0, 3, 0), (11, 2147483648, 2147483656), (11, 2147483647, 2147483651)], [(2147483648, 2147583648, 0, 0), (2147483652, 2147483652, 1, 0)], h_b224_3),
  ([(2, 83, 0), (11, 0, 4294967295), (0, 4, 0), (11, 2147483648, 2147483656), (11, 2147483647, 2147483651)], [(2147483648, 2147583648, 0, 0), (2147483652, 2147483652, 1, 0)], h_b224_4),
  ([(2, 83, 0), (11, 0, 4294967295), (0, 5, 0), (11, 2147483648, 2147483656), (11, 2147483647, 2147483651)], [(2147483648, 2147583648, 0, 0), (2147483652, 2147483652, 1, 0)], h_b224_5),
  ([(2, 83, 0), (11, 0, 4294967295), (0, 6, 0), (11, 2147483648, 2147483656), (11, 2147483647, 2147483651)], [(2147483648, 2147583648, 0, 0), (2147483652, 2147483652, 1, 0)], h_b224_6),
  ([(2, 83, 0), (11, 0, 4294967295), (0, 7, 0), (11, 2147483648, 2147483656), (11, 2147483647, 2147483651)], [(2147483648, 2147583648, 0, 0), (2147483652, 2147483652, 1, 0)], h_b224_7),
  ([(2, 83, 0), (11, 0, 4294967295), (0, 8, 0), (11, 2147483648, 2147483656), (11, 2147483647, 2147483651)], [(2147483648, 2147583648, 0, 0), (2147483652, 2147483652, 1, 0)], h_b224_8),
  ([(2, 83, 0), (11, 0, 4294967295), (0, 9, 0), (11, 2147483648, 2147483656), (11, 2147483647, 2147483651)], [(2147483648, 2147583648, 0, 0), (2147483652, 2147483652, 1, 0)], h_b224_9),
  ([(2, 83, 0), (11, 0, 4294967295), (0, 10, 0), (11, 2147483648, 2147483656), (11, 2147483647, 2147483651)], [(2147483648, 2147583648, 0, 0), (2147483652, 2147483652, 1, 0)], h_b224_10),
  ([(2, 83, 0), (11, 0, 4294967295), (0, 11, 0), (11, 2147483648, 2147483656), (11, 2147483647, 2147483651)], [(2147483648, 2147583648, 0, 0), (2147483652, 2147483652, 1, 0)], h_b224_11),
  ([(2, 83, 0), (11, 0, 4294967295), (0, 12, 0), (11, 2147483648, 2147483656), (11, 2147483647, 2147483651)], [(2147483648, 2147583648, 0, 0), (2147483652, 2147483652, 1, 0)], h_b224_12),
  ([(2, 83, 0), (11, 0, 4294967295), (0, 13, 0), (11, 2147483648, 2147483656), (11, 2147483647, 2147483651)], [(2147483648, 2147583648, 0, 0), (2147483652, 2147483652, 1, 0)], h_b224_13),
  ([(2, 83, 0), (11, 0, 4294967295), (0, 14, 0), (11, 2147483648, 2147483656), (11, 2147483647, 2147483651)], [(2147483648, 2147583648, 0, 0), (2147483652, 2147483652, 1, 0)], h_b224_14),
  ([(2, 83, 0), (11, 0, 4294967295), (0, 15, 0), (11, 2147483648, 2147483656), (11, 2147483647, 2147483651)], [(2147483648, 2147583648, 0, 0), (2147483652, 2147483652, 1, 0)], h_b224_15),
  ([(2, 83, 0), (11, 0, 4294967295), (0, 16, 0), (11, 2147483648, 2147483656), (11, 2147483647, 2147483651)], [(2147483648, 2147583648, 0, 0), (2147483652, 2147483652, 1, 0)], h_b224_16),
  ([(2, 83, 0), (11, 0, 4294967295), (0, 17, 0), (11, 2147483648, 2147483656), (11, 2147483647, 2147483651)], [(2147483648, 2147583648, 0, 0), (2147483652, 2147483652, 1, 0)], h_b224_17),
  ([(2, 83, 0), (11, 0, 4294967295), (0, 18, 0), (11, 2147483648, 2147483656), (11, 2147483647, 2147483651)], [(2147483648, 2147583648, 0, 0), (2147483652, 2147483652, 1, 0)], h_b224_18),
  ([(2, 83, 0), (11, 0, 4294967295), (0, 19, 0), (11, 2147483648, 2147483656), (11, 2147483647, 2147483651)], [(2147483648, 2147583648, 0, 0), (2147483652, 2147483652, 1, 0)], h_b224_19),
  ([(2, 83, 0), (11, 0, 4294967295), (0, 20, 0), (11, 2147483648, 2147483656), (11, 2147483647, 2147483651)], [(2147483648, 2147583648, 0, 0), (2147483652, 2147483652, 1, 0)], h_b224_20),
  ([(2, 83, 0), (11, 0, 4294967295), (0, 21, 0), (11, 2147483648, 2147483651), (11, 2147483648, 2147483651)], [(2147483648, 2147583648, 0, 0), (2147483652, 2147483652, 1, 0)], h_b224_21),
  ([(2, 83, 0), (11, 0, 4294967295), (0, 22, 0), (11, 2147483648, 2147483651), (11, 2147483648, 2147483651)], [(2147483648, 2147583648, 0, 0), (2147483652, 2147483652, 1, 0)], h_b224_22),
  ([(2, 83, 0), (11, 0, 4294967295), (0, 23, 0), (11, 2147483648, 2147483651), (11, 2147483648, 2147483651)], [(2147483648, 2147583648, 0, 0), (2147483652, 2147483652, 1, 0)], h_b224_23),
  ([(2, 83, 0), (11, 0, 4294967295), (0, 24, 0), (11, 2147483648, 2147483651), (11, 2147483648, 2147483651)], [(2147483648, 2147583648, 0, 0), (2147483652, 2147483652, 1, 0)], h_b224_24),
  ([(2, 83, 0), (11, 0, 4294967295), (0, 25, 0), (11, 2147483648, 2147483651), (11, 2147483648, 2147483651)], [(2147483648, 2147583648, 0, 0), (2147483652, 2147483652, 1, 0)], h_b224_25)]
noncomputable def cl_b224_e : List (Nat × e2_S) := [(2, e2_cutL (al_b224_26.set 2 (11, 2147483648, 2147483657)) 2 (E_b224_26.take 2) h_b224_26)]
set_option maxRecDepth 1000000 in
theorem ck_b224_e : e2_run (e2_orG 231 83 11 2 2147483648 2147483668 as_b219 Eb_b219 f_b219 rs_b219 (e2_cal S_b224 I_b224 4000 1)) (e2_fin rs_b224) e2x_230 (e2_bpL cl_b224_e) (e2_cutA cl_b224_e) 4000 (e2_seek e2x_230 0) (e2_al 5 as_b224) [] E_b224 f_b224 = true := by decide +kernel
noncomputable def cl_b224_26 : List (Nat × e2_S) := [(2, e2_cutL (al_b224_26.set 2 (13, 10, 2147483657)) 2 (E_b224_26.take 2) h_b224_26),
  (49, e2_cutL (al_b224_27.set 2 (11, 2147483647, 2147483667)) 2 (E_b224_27.take 2) h_b224_27)]
set_option maxRecDepth 1000000 in
theorem ck_b224_26 : e2_runM (e2_orG 231 83 11 2 2147483648 2147483668 as_b219 Eb_b219 f_b219 rs_b219 (e2_cal S_b224 I_b224 4000 1)) (e2_fin rs_b224) e2x_230 (e2_bpL cl_b224_26) (e2_cutA cl_b224_26) 4000 (e2_seek e2x_230 2) al_b224_26 [] E_b224_26 h_b224_26 = true := by decide +kernel
set_option maxRecDepth 1000000 in
theorem ci_b224_26 : e2_idl 2 (al_b224_26.set 2 (9, 0, 0)) = true := by decide +kernel
set_option maxRecDepth 1000000 in
theorem cj_b224_26 : e2_idh 2 8 h_b224_26 = true := by decide +kernel
noncomputable def cl_b224_27 : List (Nat × e2_S) := [(120, e2_cutS cu_b224_120),
  (55, e2_cutL (al_b224_28.set 3 (11, 2147483648, 2147483657)) 3 (E_b224_28.take 3) h_b224_28)]
set_option maxRecDepth 1000000 in
theorem ck_b224_27 : e2_runM (e2_orG 231 83 11 2 2147483648 2147483668 as_b219 Eb_b219 f_b219 rs_b219 (e2_cal S_b224 I_b224 4000 1)) (e2_fin rs_b224) e2x_230 (e2_bpL cl_b224_27) (e2_cutA cl_b224_27) 4000 (e2_seek e2x_230 49) al_b224_27 [] E_b224_27 h_b224_27 = true := by decide +kernel
set_option maxRecDepth 1000000 in
theorem ci_b224_27 : e2_idl 2 (al_b224_27.set 2 (9, 0, 0)) = true := by decide +kernel
set_option maxRecDepth 1000000 in
theorem cj_b224_27 : e2_idh 2 8 h_b224_27 = true := by decide +kernel
noncomputable def cl_b224_28 : List (Nat × e2_S) := [(49, e2_cutL (al_b224_27.set 2 (12, 10, 2147483647)) 2 (E_b224_27.take 2) h_b224_27),
  (55, e2_cutL (al_b224_28.set 3 (13, 11, 2147483657)) 3 (E_b224_28.take 3) h_b224_28)]
set_option maxRecDepth 1000000 in
theorem ck_b224_28 : e2_runM (e2_orG 231 83 11 2 2147483648 2147483668 as_b219 Eb_b219 f_b219 rs_b219 (e2_cal S_b224 I_b224 4000 1)) (e2_fin rs_b224) e2x_230 (e2_bpL cl_b224_28) (e2_cutA cl_b224_28) 4000 (e2_seek e2x_230 55) al_b224_28 [] E_b224_28 h_b224_28 = true := by decide +kernel
set_option maxRecDepth 1000000 in
theorem ci_b224_28 : e2_idl 3 (al_b224_28.set 3 (9, 0, 0)) = true := by decide +kernel
set_option maxRecDepth 1000000 in
theorem cj_b224_28 : e2_idh 3 8 h_b224_28 = true := by decide +kernel
set_option maxRecDepth 1000000 in
theorem ck_b224_u120 : e2_cutsB (e2_orG 231 83 11 2 2147483648 2147483668 as_b219 Eb_b219 f_b219 rs_b219 (e2_cal S_b224 I_b224 4000 1)) (e2_fin rs_b224) e2x_230 120 4000 cu_b224_120 = true := by decide +kernel
theorem cs_b224 (hen : en_ok) (l : Launch) : e2_smOk l 5 s_b224 := by
  refine e2_conC (H := 4) (C := evd_230) ei_230 (fun d hd => (e2_orG_ok (e2_cal_ok hen (e2_fa (cs_b218 hen l) e2_fz) (e2_fa ein_216 (e2_fa ein_217 (e2_fa ein_227 e2_fz))) 1 d (by omega)) rfl (by decide) (fun M hM => (cs_b219 hen l).2 M hM d (by omega)) (e2_okGB_ok cog_b219))) (by decide) co_b224 fun M d _ hC hcall p e R s m args below meth c Q D cA A ads r0 ha hl0 => ?_
  have EN_120 := e2_cutS_ok (bp := 120) (cuts := cu_b224_120) (e2_cuts_len hl0 (by decide +kernel)) (e2_cuts_ok hen ha hcall (hC [192, 195]) (X := e2x_230) ex2_230 (e2_cuts_len hl0 (by decide +kernel)) ck_b224_u120)
  have L_27 : e2_gdM M p l e R s m args below meth c Q D cA A ads r0 49 al_b224_27 [] E_b224_27 h_b224_27 := by
    refine e2_indD (u := 2) (j := 2) (lo := 2147483647) (hi := 2147483667) hl0 (by decide) rfl rfl rfl ci_b224_27 cj_b224_27 ?_
    intro r_27 k_27 hk_27 hp_27 hs_27 hn_27
    have hl_27 : r_27.length ≤ 3 := hs_27.len rfl
    have ha_27 := ha.ext hp_27
    have L_28 : e2_gdM M p l e R s m args below meth c Q D cA A ads r_27 55 al_b224_28 [] E_b224_28 h_b224_28 := by
      refine e2_indL (u := 3) (j := 3) (lo := 2147483648) (hi := 2147483657) (b := 3) (dd := 0) hl_27 (by decide) rfl rfl (Or.inr ⟨rfl, rfl⟩) rfl ci_b224_28 cj_b224_28 ?_
      intro r_28 k_28 hk_28 hp_28 hs_28 hn_28
      have hl_28 : r_28.length ≤ 4 := hs_28.len rfl
      have ha_28 := ha_27.ext hp_28
      exact e2_fromM hen ha_28 hcall (e2_cutA_ok (e2_fa (fun al st E h hc => (hn_27 al st E h hc).ext hp_28) (e2_fa (fun al st E h hc => hn_28 al st E h hc) e2_fz))) (hC [192, 195]) (X := e2x_230) ex2_230 55 ck_b224_28
    have EN_28 := e2_entL (u := 3) (j := 3) (lo := 2147483648) (hi := 2147483657) hl_27 rfl rfl rfl ci_b224_28 cj_b224_28 L_28
    exact e2_fromM hen ha_27 hcall (e2_cutA_ok (e2_fa (fun al st E h hc => (EN_120 al st E h hc).ext hp_27) (e2_fa (fun al st E h hc => EN_28 al st E h hc) e2_fz))) (hC [192, 195]) (X := e2x_230) ex2_230 49 ck_b224_27
  have EN_27 := e2_entL (u := 2) (j := 2) (lo := 2147483647) (hi := 2147483667) hl0 rfl rfl rfl ci_b224_27 cj_b224_27 L_27
  have L_26 : e2_gdM M p l e R s m args below meth c Q D cA A ads r0 2 al_b224_26 [] E_b224_26 h_b224_26 := by
    refine e2_indL (u := 2) (j := 2) (lo := 2147483648) (hi := 2147483657) (b := 2) (dd := 0) hl0 (by decide) rfl rfl (Or.inr ⟨rfl, rfl⟩) rfl ci_b224_26 cj_b224_26 ?_
    intro r_26 k_26 hk_26 hp_26 hs_26 hn_26
    have hl_26 : r_26.length ≤ 3 := hs_26.len rfl
    have ha_26 := ha.ext hp_26
    exact e2_fromM hen ha_26 hcall (e2_cutA_ok (e2_fa (fun al st E h hc => hn_26 al st E h hc) (e2_fa (fun al st E h hc => (EN_27 al st E h hc).ext hp_26) e2_fz))) (hC [192, 195]) (X := e2x_230) ex2_230 2 ck_b224_26
  have EN_26 := e2_entL (u := 2) (j := 2) (lo := 2147483648) (hi := 2147483657) hl0 rfl rfl rfl ci_b224_26 cj_b224_26 L_26
  exact e2_from hen ha hcall (e2_cutA_ok (e2_fa (fun al st E h hc => EN_26 al st E h hc) e2_fz)) (hC [192, 195]) (X := e2x_230) ex2_230 0 ck_b224_e
/-! b225 X10_read -/
def as_b225 : List ev_V := [(2, 83, 0), (11, 0, 4294967295)]
def E_b225 : e2_E := [(2147483648, 2147583648, 0, 0), (2147483653, 2147483653, 1, 0)]
def bc223 : ev_C := (50, [(11, 2147483649, 2147483654), (11, 2147483649, 2147483654), (11, 2147483649, 2147483654), (11, 2147483649, 2147483654), (11, 2147483649, 2147483654), (11, 2147483648, 2147483654), (11, 2147483648, 2147483654), (11, 2147483648, 2147483654), (11, 2147483648, 2147483654), (11, 2147483648, 2147483654), (11, 2147483648, 2147483654), (11, 2147483648, 2147483654), (11, 2147483648, 2147483654), (11, 2147483648, 2147483654), (11, 2147483648, 2147483654), (11, 2147483648, 2147483654)])
def bn1715 : e2_Q1 := (bc223, bc3)
def bn1716 : e2_Q2 := (bn130, bn1715)
def bn1717 : e2_Q3 := (bn129, bn1716)
def bn1718 : e2_Q4 := (bn1717, bn1335)
def bn1719 : e2_Q5 := (bn1718, bn156)
def bn1720 : e2_Q6 := (bn1719, bn1383)
def bn1721 : e2_Q7 := (bn1720, bn1356)
def bn1722 : e2_Q8 := (bn1373, bn1721)
noncomputable def f_b225 : ev_H := (bn1722 : e2_Q8)
noncomputable def q_b225_0 : ev_H := (bn1722 : e2_Q8)
noncomputable def rs_b225 : e2_Rs := [((11, 2147483647, 2147483668), q_b225_0)]
noncomputable def s_b225 : e2_Sm := (230, as_b225, E_b225, f_b225, rs_b225)
noncomputable def S_b225 : List e2_Sm := [s_b218]
noncomputable def I_b225 : List e2_In := [(216, 1, e2x_216), (217, 1, e2x_217), (227, 2, e2x_227)]
set_option maxRecDepth 1000000 in
theorem co_b225 : e2_okSB E_b225.length as_b225 f_b225 rs_b225 = true := by decide +kernel
def al_b225_26 : List ev_V := [(2, 83, 0), (11, 0, 4294967295), (1, 2, 4294967296), (9, 0, 0), (9, 0, 0)]
def E_b225_26 : e2_E := [(2147483648, 2147583648, 0, 0), (2147483653, 2147483653, 1, 0), (2147483648, 2147483657, 2, 0)]
noncomputable def h_b225_26 : ev_H := (bn1722 : e2_Q8)
def al_b225_27 : List ev_V := [(2, 83, 0), (11, 0, 4294967295), (1, 2, 4294967296), (9, 0, 0), (9, 0, 0)]
def E_b225_27 : e2_E := [(2147483648, 2147583648, 0, 0), (2147483653, 2147483653, 1, 0), (2147483647, 2147483667, 2, 0)]
noncomputable def h_b225_27 : ev_H := (bn1722 : e2_Q8)
def al_b225_28 : List ev_V := [(2, 83, 0), (11, 0, 4294967295), (1, 2, 4294967296), (1, 3, 4294967296), (9, 0, 0)]
def E_b225_28 : e2_E := [(2147483648, 2147583648, 0, 0), (2147483653, 2147483653, 1, 0), (2147483648, 2147483667, 2, 0), (2147483648, 2147483657, 3, 0)]
noncomputable def h_b225_28 : ev_H := (bn1722 : e2_Q8)
def bn1723 : e2_Q7 := (bn1720, bn1392)
def bn1724 : e2_Q8 := (bn1373, bn1723)
noncomputable def h_b225_0 : ev_H := (bn1724 : e2_Q8)
def bn1725 : e2_Q7 := (bn1720, bn1410)
def bn1726 : e2_Q8 := (bn1373, bn1725)
noncomputable def h_b225_1 : ev_H := (bn1726 : e2_Q8)
def bn1727 : e2_Q7 := (bn1720, bn1418)
def bn1728 : e2_Q8 := (bn1373, bn1727)
noncomputable def h_b225_2 : ev_H := (bn1728 : e2_Q8)
def bn1729 : e2_Q7 := (bn1720, bn1426)
def bn1730 : e2_Q8 := (bn1373, bn1729)
noncomputable def h_b225_3 : ev_H := (bn1730 : e2_Q8)
def bn1731 : e2_Q7 := (bn1720, bn1434)
def bn1732 : e2_Q8 := (bn1373, bn1731)
noncomputable def h_b225_4 : ev_H := (bn1732 : e2_Q8)
def bn1733 : e2_Q7 := (bn1720, bn1442)
def bn1734 : e2_Q8 := (bn1373, bn1733)
noncomputable def h_b225_5 : ev_H := (bn1734 : e2_Q8)
def bn1735 : e2_Q7 := (bn1720, bn1450)
def bn1736 : e2_Q8 := (bn1373, bn1735)
noncomputable def h_b225_6 : ev_H := (bn1736 : e2_Q8)
def bn1737 : e2_Q7 := (bn1720, bn1458)
def bn1738 : e2_Q8 := (bn1373, bn1737)
noncomputable def h_b225_7 : ev_H := (bn1738 : e2_Q8)
def bn1739 : e2_Q7 := (bn1720, bn1466)
def bn1740 : e2_Q8 := (bn1373, bn1739)
noncomputable def h_b225_8 : ev_H := (bn1740 : e2_Q8)
def bn1741 : e2_Q7 := (bn1720, bn1474)
def bn1742 : e2_Q8 := (bn1373, bn1741)
noncomputable def h_b225_9 : ev_H := (bn1742 : e2_Q8)
def bn1743 : e2_Q7 := (bn1720, bn1482)
def bn1744 : e2_Q8 := (bn1373, bn1743)
noncomputable def h_b225_10 : ev_H := (bn1744 : e2_Q8)
def bn1745 : e2_Q7 := (bn1720, bn1490)
def bn1746 : e2_Q8 := (bn1373, bn1745)
noncomputable def h_b225_11 : ev_H := (bn1746 : e2_Q8)
def bn1747 : e2_Q7 := (bn1720, bn1498)
def bn1748 : e2_Q8 := (bn1373, bn1747)
noncomputable def h_b225_12 : ev_H := (bn1748 : e2_Q8)
def bn1749 : e2_Q7 := (bn1720, bn1506)
def bn1750 : e2_Q8 := (bn1373, bn1749)
noncomputable def h_b225_13 : ev_H := (bn1750 : e2_Q8)
def bn1751 : e2_Q7 := (bn1720, bn1514)
def bn1752 : e2_Q8 := (bn1373, bn1751)
noncomputable def h_b225_14 : ev_H := (bn1752 : e2_Q8)
def bn1753 : e2_Q7 := (bn1720, bn1522)
def bn1754 : e2_Q8 := (bn1373, bn1753)
noncomputable def h_b225_15 : ev_H := (bn1754 : e2_Q8)
def bn1755 : e2_Q7 := (bn1720, bn1530)
def bn1756 : e2_Q8 := (bn1373, bn1755)
noncomputable def h_b225_16 : ev_H := (bn1756 : e2_Q8)
def bn1757 : e2_Q7 := (bn1720, bn1538)
def bn1758 : e2_Q8 := (bn1373, bn1757)
noncomputable def h_b225_17 : ev_H := (bn1758 : e2_Q8)
def bn1759 : e2_Q7 := (bn1720, bn1546)
def bn1760 : e2_Q8 := (bn1373, bn1759)
noncomputable def h_b225_18 : ev_H := (bn1760 : e2_Q8)
def bn1761 : e2_Q7 := (bn1720, bn1554)
def bn1762 : e2_Q8 := (bn1373, bn1761)
noncomputable def h_b225_19 : ev_H := (bn1762 : e2_Q8)
noncomputable def h_b225_20 : ev_H := (bn1722 : e2_Q8)
def bn1763 : e2_Q7 := (bn1720, bn1562)
def bn1764 : e2_Q8 := (bn1373, bn1763)
noncomputable def h_b225_21 : ev_H := (bn1764 : e2_Q8)
noncomputable def h_b225_22 : ev_H := (bn1764 : e2_Q8)
noncomputable def h_b225_23 : ev_H := (bn1764 : e2_Q8)
noncomputable def h_b225_24 : ev_H := (bn1764 : e2_Q8)
noncomputable def h_b225_25 : ev_H := (bn1764 : e2_Q8)
noncomputable def cu_b225_120 : List e2_Cu := [([(2, 83, 0), (11, 0, 4294967295), (0, 0, 0), (0, 8, 0), (9, 0, 0)], [(2147483648, 2147583648, 0, 0), (2147483653, 2147483653, 1, 0)], h_b225_0),
  ([(2, 83, 0), (11, 0, 4294967295), (0, 1, 0), (11, 2147483648, 2147483656), (11, 2147483647, 2147483652)], [(2147483648, 2147583648, 0, 0), (2147483653, 2147483653, 1, 0)], h_b225_1),
  ([(2, 83, 0), (11, 0, 4294967295), (0, 2, 0), (11, 2147483648, 2147483656), (11, 2147483647, 2147483652)], [(2147483648, 2147583648, 0, 0), (2147483653, 2147483653, 1, 0)], h_b225_2),
  ([(2, 83, 0), (11, 0, 4294967295), (0, 3, 0), (11, 2147483648, 2147483656), (11, 2147483647, 2147483652)], [(2147483648, 2147583648, 0, 0), (2147483653, 2147483653, 1, 0)], h_b225_3),
  ([(2, 83, 0), (11, 0, 4294967295), (0, 4, 0), (11, 2147483648, 2147483656), (11, 2147483647, 2147483652)], [(2147483648, 2147583648, 0, 0), (2147483653, 2147483653, 1, 0)], h_b225_4),
  ([(2, 83, 0), (11, 0, 4294967295), (0, 5, 0), (11, 2147483648, 2147483656), (11, 2147483647, 2147483652)], [(2147483648, 2147583648, 0, 0), (2147483653, 2147483653, 1, 0)], h_b225_5),
  ([(2, 83, 0), (11, 0, 4294967295), (0, 6, 0), (11, 2147483648, 2147483656), (11, 2147483647, 2147483652)], [(2147483648, 2147583648, 0, 0), (2147483653, 2147483653, 1, 0)], h_b225_6),
  ([(2, 83, 0), (11, 0, 4294967295), (0, 7, 0), (11, 2147483648, 2147483656), (11, 2147483647, 2147483652)], [(2147483648, 2147583648, 0, 0), (2147483653, 2147483653, 1, 0)], h_b225_7),
  ([(2, 83, 0), (11, 0, 4294967295), (0, 8, 0), (11, 2147483648, 2147483656), (11, 2147483647, 2147483652)], [(2147483648, 2147583648, 0, 0), (2147483653, 2147483653, 1, 0)], h_b225_8),
  ([(2, 83, 0), (11, 0, 4294967295), (0, 9, 0), (11, 2147483648, 2147483656), (11, 2147483647, 2147483652)], [(2147483648, 2147583648, 0, 0), (2147483653, 2147483653, 1, 0)], h_b225_9),
  ([(2, 83, 0), (11, 0, 4294967295), (0, 10, 0), (11, 2147483648, 2147483656), (11, 2147483647, 2147483652)], [(2147483648, 2147583648, 0, 0), (2147483653, 2147483653, 1, 0)], h_b225_10),
  ([(2, 83, 0), (11, 0, 4294967295), (0, 11, 0), (11, 2147483648, 2147483656), (11, 2147483647, 2147483652)], [(2147483648, 2147583648, 0, 0), (2147483653, 2147483653, 1, 0)], h_b225_11),
  ([(2, 83, 0), (11, 0, 4294967295), (0, 12, 0), (11, 2147483648, 2147483656), (11, 2147483647, 2147483652)], [(2147483648, 2147583648, 0, 0), (2147483653, 2147483653, 1, 0)], h_b225_12),
  ([(2, 83, 0), (11, 0, 4294967295), (0, 13, 0), (11, 2147483648, 2147483656), (11, 2147483647, 2147483652)], [(2147483648, 2147583648, 0, 0), (2147483653, 2147483653, 1, 0)], h_b225_13),
  ([(2, 83, 0), (11, 0, 4294967295), (0, 14, 0), (11, 2147483648, 2147483656), (11, 2147483647, 2147483652)], [(2147483648, 2147583648, 0, 0), (2147483653, 2147483653, 1, 0)], h_b225_14),
  ([(2, 83, 0), (11, 0, 4294967295), (0, 15, 0), (11, 2147483648, 2147483656), (11, 2147483647, 2147483652)], [(2147483648, 2147583648, 0, 0), (2147483653, 2147483653, 1, 0)], h_b225_15),
  ([(2, 83, 0), (11, 0, 4294967295), (0, 16, 0), (11, 2147483648, 2147483656), (11, 2147483647, 2147483652)], [(2147483648, 2147583648, 0, 0), (2147483653, 2147483653, 1, 0)], h_b225_16),
  ([(2, 83, 0), (11, 0, 4294967295), (0, 17, 0), (11, 2147483648, 2147483656), (11, 2147483647, 2147483652)], [(2147483648, 2147583648, 0, 0), (2147483653, 2147483653, 1, 0)], h_b225_17),
  ([(2, 83, 0), (11, 0, 4294967295), (0, 18, 0), (11, 2147483648, 2147483656), (11, 2147483647, 2147483652)], [(2147483648, 2147583648, 0, 0), (2147483653, 2147483653, 1, 0)], h_b225_18),
  ([(2, 83, 0), (11, 0, 4294967295), (0, 19, 0), (11, 2147483648, 2147483656), (11, 2147483647, 2147483652)], [(2147483648, 2147583648, 0, 0), (2147483653, 2147483653, 1, 0)], h_b225_19),
  ([(2, 83, 0), (11, 0, 4294967295), (0, 20, 0), (11, 2147483648, 2147483656), (11, 2147483647, 2147483652)], [(2147483648, 2147583648, 0, 0), (2147483653, 2147483653, 1, 0)], h_b225_20),
  ([(2, 83, 0), (11, 0, 4294967295), (0, 21, 0), (11, 2147483648, 2147483652), (11, 2147483648, 2147483652)], [(2147483648, 2147583648, 0, 0), (2147483653, 2147483653, 1, 0)], h_b225_21),
  ([(2, 83, 0), (11, 0, 4294967295), (0, 22, 0), (11, 2147483648, 2147483652), (11, 2147483648, 2147483652)], [(2147483648, 2147583648, 0, 0), (2147483653, 2147483653, 1, 0)], h_b225_22),
  ([(2, 83, 0), (11, 0, 4294967295), (0, 23, 0), (11, 2147483648, 2147483652), (11, 2147483648, 2147483652)], [(2147483648, 2147583648, 0, 0), (2147483653, 2147483653, 1, 0)], h_b225_23),
  ([(2, 83, 0), (11, 0, 4294967295), (0, 24, 0), (11, 2147483648, 2147483652), (11, 2147483648, 2147483652)], [(2147483648, 2147583648, 0, 0), (2147483653, 2147483653, 1, 0)], h_b225_24),
  ([(2, 83, 0), (11, 0, 4294967295), (0, 25, 0), (11, 2147483648, 2147483652), (11, 2147483648, 2147483652)], [(2147483648, 2147583648, 0, 0), (2147483653, 2147483653, 1, 0)], h_b225_25)]
noncomputable def cl_b225_e : List (Nat × e2_S) := [(2, e2_cutL (al_b225_26.set 2 (11, 2147483648, 2147483657)) 2 (E_b225_26.take 2) h_b225_26)]
set_option maxRecDepth 1000000 in
theorem ck_b225_e : e2_run (e2_orG 231 83 11 2 2147483648 2147483668 as_b219 Eb_b219 f_b219 rs_b219 (e2_cal S_b225 I_b225 4000 1)) (e2_fin rs_b225) e2x_230 (e2_bpL cl_b225_e) (e2_cutA cl_b225_e) 4000 (e2_seek e2x_230 0) (e2_al 5 as_b225) [] E_b225 f_b225 = true := by decide +kernel
noncomputable def cl_b225_26 : List (Nat × e2_S) := [(2, e2_cutL (al_b225_26.set 2 (13, 10, 2147483657)) 2 (E_b225_26.take 2) h_b225_26),
  (49, e2_cutL (al_b225_27.set 2 (11, 2147483647, 2147483667)) 2 (E_b225_27.take 2) h_b225_27)]
set_option maxRecDepth 1000000 in
theorem ck_b225_26 : e2_runM (e2_orG 231 83 11 2 2147483648 2147483668 as_b219 Eb_b219 f_b219 rs_b219 (e2_cal S_b225 I_b225 4000 1)) (e2_fin rs_b225) e2x_230 (e2_bpL cl_b225_26) (e2_cutA cl_b225_26) 4000 (e2_seek e2x_230 2) al_b225_26 [] E_b225_26 h_b225_26 = true := by decide +kernel
set_option maxRecDepth 1000000 in
theorem ci_b225_26 : e2_idl 2 (al_b225_26.set 2 (9, 0, 0)) = true := by decide +kernel
set_option maxRecDepth 1000000 in
theorem cj_b225_26 : e2_idh 2 8 h_b225_26 = true := by decide +kernel
noncomputable def cl_b225_27 : List (Nat × e2_S) := [(120, e2_cutS cu_b225_120),
  (55, e2_cutL (al_b225_28.set 3 (11, 2147483648, 2147483657)) 3 (E_b225_28.take 3) h_b225_28)]
set_option maxRecDepth 1000000 in
theorem ck_b225_27 : e2_runM (e2_orG 231 83 11 2 2147483648 2147483668 as_b219 Eb_b219 f_b219 rs_b219 (e2_cal S_b225 I_b225 4000 1)) (e2_fin rs_b225) e2x_230 (e2_bpL cl_b225_27) (e2_cutA cl_b225_27) 4000 (e2_seek e2x_230 49) al_b225_27 [] E_b225_27 h_b225_27 = true := by decide +kernel
set_option maxRecDepth 1000000 in
theorem ci_b225_27 : e2_idl 2 (al_b225_27.set 2 (9, 0, 0)) = true := by decide +kernel
set_option maxRecDepth 1000000 in
theorem cj_b225_27 : e2_idh 2 8 h_b225_27 = true := by decide +kernel
noncomputable def cl_b225_28 : List (Nat × e2_S) := [(49, e2_cutL (al_b225_27.set 2 (12, 10, 2147483647)) 2 (E_b225_27.take 2) h_b225_27),
  (55, e2_cutL (al_b225_28.set 3 (13, 11, 2147483657)) 3 (E_b225_28.take 3) h_b225_28)]
set_option maxRecDepth 1000000 in
theorem ck_b225_28 : e2_runM (e2_orG 231 83 11 2 2147483648 2147483668 as_b219 Eb_b219 f_b219 rs_b219 (e2_cal S_b225 I_b225 4000 1)) (e2_fin rs_b225) e2x_230 (e2_bpL cl_b225_28) (e2_cutA cl_b225_28) 4000 (e2_seek e2x_230 55) al_b225_28 [] E_b225_28 h_b225_28 = true := by decide +kernel
set_option maxRecDepth 1000000 in
theorem ci_b225_28 : e2_idl 3 (al_b225_28.set 3 (9, 0, 0)) = true := by decide +kernel
set_option maxRecDepth 1000000 in
theorem cj_b225_28 : e2_idh 3 8 h_b225_28 = true := by decide +kernel
set_option maxRecDepth 1000000 in
theorem ck_b225_u120 : e2_cutsB (e2_orG 231 83 11 2 2147483648 2147483668 as_b219 Eb_b219 f_b219 rs_b219 (e2_cal S_b225 I_b225 4000 1)) (e2_fin rs_b225) e2x_230 120 4000 cu_b225_120 = true := by decide +kernel
theorem cs_b225 (hen : en_ok) (l : Launch) : e2_smOk l 5 s_b225 := by
  refine e2_conC (H := 4) (C := evd_230) ei_230 (fun d hd => (e2_orG_ok (e2_cal_ok hen (e2_fa (cs_b218 hen l) e2_fz) (e2_fa ein_216 (e2_fa ein_217 (e2_fa ein_227 e2_fz))) 1 d (by omega)) rfl (by decide) (fun M hM => (cs_b219 hen l).2 M hM d (by omega)) (e2_okGB_ok cog_b219))) (by decide) co_b225 fun M d _ hC hcall p e R s m args below meth c Q D cA A ads r0 ha hl0 => ?_
  have EN_120 := e2_cutS_ok (bp := 120) (cuts := cu_b225_120) (e2_cuts_len hl0 (by decide +kernel)) (e2_cuts_ok hen ha hcall (hC [192, 195]) (X := e2x_230) ex2_230 (e2_cuts_len hl0 (by decide +kernel)) ck_b225_u120)
  have L_27 : e2_gdM M p l e R s m args below meth c Q D cA A ads r0 49 al_b225_27 [] E_b225_27 h_b225_27 := by
    refine e2_indD (u := 2) (j := 2) (lo := 2147483647) (hi := 2147483667) hl0 (by decide) rfl rfl rfl ci_b225_27 cj_b225_27 ?_
    intro r_27 k_27 hk_27 hp_27 hs_27 hn_27
    have hl_27 : r_27.length ≤ 3 := hs_27.len rfl
    have ha_27 := ha.ext hp_27
    have L_28 : e2_gdM M p l e R s m args below meth c Q D cA A ads r_27 55 al_b225_28 [] E_b225_28 h_b225_28 := by
      refine e2_indL (u := 3) (j := 3) (lo := 2147483648) (hi := 2147483657) (b := 3) (dd := 0) hl_27 (by decide) rfl rfl (Or.inr ⟨rfl, rfl⟩) rfl ci_b225_28 cj_b225_28 ?_
      intro r_28 k_28 hk_28 hp_28 hs_28 hn_28
      have hl_28 : r_28.length ≤ 4 := hs_28.len rfl
      have ha_28 := ha_27.ext hp_28
      exact e2_fromM hen ha_28 hcall (e2_cutA_ok (e2_fa (fun al st E h hc => (hn_27 al st E h hc).ext hp_28) (e2_fa (fun al st E h hc => hn_28 al st E h hc) e2_fz))) (hC [192, 195]) (X := e2x_230) ex2_230 55 ck_b225_28
    have EN_28 := e2_entL (u := 3) (j := 3) (lo := 2147483648) (hi := 2147483657) hl_27 rfl rfl rfl ci_b225_28 cj_b225_28 L_28
    exact e2_fromM hen ha_27 hcall (e2_cutA_ok (e2_fa (fun al st E h hc => (EN_120 al st E h hc).ext hp_27) (e2_fa (fun al st E h hc => EN_28 al st E h hc) e2_fz))) (hC [192, 195]) (X := e2x_230) ex2_230 49 ck_b225_27
  have EN_27 := e2_entL (u := 2) (j := 2) (lo := 2147483647) (hi := 2147483667) hl0 rfl rfl rfl ci_b225_27 cj_b225_27 L_27
  have L_26 : e2_gdM M p l e R s m args below meth c Q D cA A ads r0 2 al_b225_26 [] E_b225_26 h_b225_26 := by
    refine e2_indL (u := 2) (j := 2) (lo := 2147483648) (hi := 2147483657) (b := 2) (dd := 0) hl0 (by decide) rfl rfl (Or.inr ⟨rfl, rfl⟩) rfl ci_b225_26 cj_b225_26 ?_
    intro r_26 k_26 hk_26 hp_26 hs_26 hn_26
    have hl_26 : r_26.length ≤ 3 := hs_26.len rfl
    have ha_26 := ha.ext hp_26
    exact e2_fromM hen ha_26 hcall (e2_cutA_ok (e2_fa (fun al st E h hc => hn_26 al st E h hc) (e2_fa (fun al st E h hc => (EN_27 al st E h hc).ext hp_26) e2_fz))) (hC [192, 195]) (X := e2x_230) ex2_230 2 ck_b225_26
  have EN_26 := e2_entL (u := 2) (j := 2) (lo := 2147483648) (hi := 2147483657) hl0 rfl rfl rfl ci_b225_26 cj_b225_26 L_26
  exact e2_from hen ha hcall (e2_cutA_ok (e2_fa (fun al st E h hc => EN_26 al st E h hc) e2_fz)) (hC [192, 195]) (X := e2x_230) ex2_230 0 ck_b225_e
/-! b226 X10_read -/
def as_b226 : List ev_V := [(2, 83, 0), (11, 0, 4294967295)]
def E_b226 : e2_E := [(2147483648, 2147583648, 0, 0), (2147483654, 2147483654, 1, 0)]
def bc224 : ev_C := (50, [(11, 2147483649, 2147483654), (11, 2147483649, 2147483654), (11, 2147483649, 2147483654), (11, 2147483649, 2147483654), (11, 2147483649, 2147483654), (11, 2147483649, 2147483654), (11, 2147483648, 2147483654), (11, 2147483648, 2147483654), (11, 2147483648, 2147483654), (11, 2147483648, 2147483654), (11, 2147483648, 2147483654), (11, 2147483648, 2147483654), (11, 2147483648, 2147483654), (11, 2147483648, 2147483654), (11, 2147483648, 2147483654), (11, 2147483648, 2147483654)])
def bn1765 : e2_Q1 := (bc224, bc3)
def bn1766 : e2_Q2 := (bn130, bn1765)
def bn1767 : e2_Q3 := (bn129, bn1766)
def bn1768 : e2_Q4 := (bn1767, bn1335)
def bn1769 : e2_Q5 := (bn1768, bn156)
def bn1770 : e2_Q6 := (bn1769, bn1383)
def bn1771 : e2_Q7 := (bn1770, bn1356)
def bn1772 : e2_Q8 := (bn1373, bn1771)
noncomputable def f_b226 : ev_H := (bn1772 : e2_Q8)
noncomputable def q_b226_0 : ev_H := (bn1772 : e2_Q8)
noncomputable def rs_b226 : e2_Rs := [((11, 2147483647, 2147483668), q_b226_0)]
noncomputable def s_b226 : e2_Sm := (230, as_b226, E_b226, f_b226, rs_b226)
noncomputable def S_b226 : List e2_Sm := [s_b218]
noncomputable def I_b226 : List e2_In := [(216, 1, e2x_216), (217, 1, e2x_217), (227, 2, e2x_227)]
set_option maxRecDepth 1000000 in
theorem co_b226 : e2_okSB E_b226.length as_b226 f_b226 rs_b226 = true := by decide +kernel
def al_b226_26 : List ev_V := [(2, 83, 0), (11, 0, 4294967295), (1, 2, 4294967296), (9, 0, 0), (9, 0, 0)]
def E_b226_26 : e2_E := [(2147483648, 2147583648, 0, 0), (2147483654, 2147483654, 1, 0), (2147483648, 2147483657, 2, 0)]
noncomputable def h_b226_26 : ev_H := (bn1772 : e2_Q8)
def al_b226_27 : List ev_V := [(2, 83, 0), (11, 0, 4294967295), (1, 2, 4294967296), (9, 0, 0), (9, 0, 0)]
def E_b226_27 : e2_E := [(2147483648, 2147583648, 0, 0), (2147483654, 2147483654, 1, 0), (2147483647, 2147483667, 2, 0)]
noncomputable def h_b226_27 : ev_H := (bn1772 : e2_Q8)
def al_b226_28 : List ev_V := [(2, 83, 0), (11, 0, 4294967295), (1, 2, 4294967296), (1, 3, 4294967296), (9, 0, 0)]
def E_b226_28 : e2_E := [(2147483648, 2147583648, 0, 0), (2147483654, 2147483654, 1, 0), (2147483648, 2147483667, 2, 0), (2147483648, 2147483657, 3, 0)]
noncomputable def h_b226_28 : ev_H := (bn1772 : e2_Q8)
def bn1773 : e2_Q7 := (bn1770, bn1392)
def bn1774 : e2_Q8 := (bn1373, bn1773)
noncomputable def h_b226_0 : ev_H := (bn1774 : e2_Q8)
def bn1775 : e2_Q7 := (bn1770, bn1410)
def bn1776 : e2_Q8 := (bn1373, bn1775)
noncomputable def h_b226_1 : ev_H := (bn1776 : e2_Q8)
def bn1777 : e2_Q7 := (bn1770, bn1418)
def bn1778 : e2_Q8 := (bn1373, bn1777)
noncomputable def h_b226_2 : ev_H := (bn1778 : e2_Q8)
def bn1779 : e2_Q7 := (bn1770, bn1426)
def bn1780 : e2_Q8 := (bn1373, bn1779)
noncomputable def h_b226_3 : ev_H := (bn1780 : e2_Q8)
def bn1781 : e2_Q7 := (bn1770, bn1434)
def bn1782 : e2_Q8 := (bn1373, bn1781)
noncomputable def h_b226_4 : ev_H := (bn1782 : e2_Q8)
def bn1783 : e2_Q7 := (bn1770, bn1442)
def bn1784 : e2_Q8 := (bn1373, bn1783)
noncomputable def h_b226_5 : ev_H := (bn1784 : e2_Q8)
def bn1785 : e2_Q7 := (bn1770, bn1450)
def bn1786 : e2_Q8 := (bn1373, bn1785)
noncomputable def h_b226_6 : ev_H := (bn1786 : e2_Q8)
def bn1787 : e2_Q7 := (bn1770, bn1458)
def bn1788 : e2_Q8 := (bn1373, bn1787)
noncomputable def h_b226_7 : ev_H := (bn1788 : e2_Q8)
def bn1789 : e2_Q7 := (bn1770, bn1466)
def bn1790 : e2_Q8 := (bn1373, bn1789)
noncomputable def h_b226_8 : ev_H := (bn1790 : e2_Q8)
def bn1791 : e2_Q7 := (bn1770, bn1474)
def bn1792 : e2_Q8 := (bn1373, bn1791)
noncomputable def h_b226_9 : ev_H := (bn1792 : e2_Q8)
def bn1793 : e2_Q7 := (bn1770, bn1482)
def bn1794 : e2_Q8 := (bn1373, bn1793)
noncomputable def h_b226_10 : ev_H := (bn1794 : e2_Q8)
def bn1795 : e2_Q7 := (bn1770, bn1490)
def bn1796 : e2_Q8 := (bn1373, bn1795)
noncomputable def h_b226_11 : ev_H := (bn1796 : e2_Q8)
def bn1797 : e2_Q7 := (bn1770, bn1498)
def bn1798 : e2_Q8 := (bn1373, bn1797)
noncomputable def h_b226_12 : ev_H := (bn1798 : e2_Q8)
def bn1799 : e2_Q7 := (bn1770, bn1506)
def bn1800 : e2_Q8 := (bn1373, bn1799)
noncomputable def h_b226_13 : ev_H := (bn1800 : e2_Q8)
def bn1801 : e2_Q7 := (bn1770, bn1514)
def bn1802 : e2_Q8 := (bn1373, bn1801)
noncomputable def h_b226_14 : ev_H := (bn1802 : e2_Q8)
def bn1803 : e2_Q7 := (bn1770, bn1522)
def bn1804 : e2_Q8 := (bn1373, bn1803)
noncomputable def h_b226_15 : ev_H := (bn1804 : e2_Q8)
def bn1805 : e2_Q7 := (bn1770, bn1530)
def bn1806 : e2_Q8 := (bn1373, bn1805)
noncomputable def h_b226_16 : ev_H := (bn1806 : e2_Q8)
def bn1807 : e2_Q7 := (bn1770, bn1538)
def bn1808 : e2_Q8 := (bn1373, bn1807)
noncomputable def h_b226_17 : ev_H := (bn1808 : e2_Q8)
def bn1809 : e2_Q7 := (bn1770, bn1546)
def bn1810 : e2_Q8 := (bn1373, bn1809)
noncomputable def h_b226_18 : ev_H := (bn1810 : e2_Q8)
def bn1811 : e2_Q7 := (bn1770, bn1554)
def bn1812 : e2_Q8 := (bn1373, bn1811)
noncomputable def h_b226_19 : ev_H := (bn1812 : e2_Q8)
noncomputable def h_b226_20 : ev_H := (bn1772 : e2_Q8)
def bn1813 : e2_Q7 := (bn1770, bn1562)
def bn1814 : e2_Q8 := (bn1373, bn1813)
noncomputable def h_b226_21 : ev_H := (bn1814 : e2_Q8)
noncomputable def h_b226_22 : ev_H := (bn1814 : e2_Q8)
noncomputable def h_b226_23 : ev_H := (bn1814 : e2_Q8)
noncomputable def h_b226_24 : ev_H := (bn1814 : e2_Q8)
noncomputable def h_b226_25 : ev_H := (bn1814 : e2_Q8)
noncomputable def cu_b226_120 : List e2_Cu := [([(2, 83, 0), (11, 0, 4294967295), (0, 0, 0), (0, 8, 0), (9, 0, 0)], [(2147483648, 2147583648, 0, 0), (2147483654, 2147483654, 1, 0)], h_b226_0),
  ([(2, 83, 0), (11, 0, 4294967295), (0, 1, 0), (11, 2147483648, 2147483656), (11, 2147483647, 2147483653)], [(2147483648, 2147583648, 0, 0), (2147483654, 2147483654, 1, 0)], h_b226_1),
  ([(2, 83, 0), (11, 0, 4294967295), (0, 2, 0), (11, 2147483648, 2147483656), (11, 2147483647, 2147483653)], [(2147483648, 2147583648, 0, 0), (2147483654, 2147483654, 1, 0)], h_b226_2),
  ([(2, 83, 0), (11, 0, 4294967295), (0, 3, 0), (11, 2147483648, 2147483656), (11, 2147483647, 2147483653)], [(2147483648, 2147583648, 0, 0), (2147483654, 2147483654, 1, 0)], h_b226_3),
  ([(2, 83, 0), (11, 0, 4294967295), (0, 4, 0), (11, 2147483648, 2147483656), (11, 2147483647, 2147483653)], [(2147483648, 2147583648, 0, 0), (2147483654, 2147483654, 1, 0)], h_b226_4),
  ([(2, 83, 0), (11, 0, 4294967295), (0, 5, 0), (11, 2147483648, 2147483656), (11, 2147483647, 2147483653)], [(2147483648, 2147583648, 0, 0), (2147483654, 2147483654, 1, 0)], h_b226_5),
  ([(2, 83, 0), (11, 0, 4294967295), (0, 6, 0), (11, 2147483648, 2147483656), (11, 2147483647, 2147483653)], [(2147483648, 2147583648, 0, 0), (2147483654, 2147483654, 1, 0)], h_b226_6),
  ([(2, 83, 0), (11, 0, 4294967295), (0, 7, 0), (11, 2147483648, 2147483656), (11, 2147483647, 2147483653)], [(2147483648, 2147583648, 0, 0), (2147483654, 2147483654, 1, 0)], h_b226_7),
  ([(2, 83, 0), (11, 0, 4294967295), (0, 8, 0), (11, 2147483648, 2147483656), (11, 2147483647, 2147483653)], [(2147483648, 2147583648, 0, 0), (2147483654, 2147483654, 1, 0)], h_b226_8),
  ([(2, 83, 0), (11, 0, 4294967295), (0, 9, 0), (11, 2147483648, 2147483656), (11, 2147483647, 2147483653)], [(2147483648, 2147583648, 0, 0), (2147483654, 2147483654, 1, 0)], h_b226_9),
  ([(2, 83, 0), (11, 0, 4294967295), (0, 10, 0), (11, 2147483648, 2147483656), (11, 2147483647, 2147483653)], [(2147483648, 2147583648, 0, 0), (2147483654, 2147483654, 1, 0)], h_b226_10),
  ([(2, 83, 0), (11, 0, 4294967295), (0, 11, 0), (11, 2147483648, 2147483656), (11, 2147483647, 2147483653)], [(2147483648, 2147583648, 0, 0), (2147483654, 2147483654, 1, 0)], h_b226_11),
  ([(2, 83, 0), (11, 0, 4294967295), (0, 12, 0), (11, 2147483648, 2147483656), (11, 2147483647, 2147483653)], [(2147483648, 2147583648, 0, 0), (2147483654, 2147483654, 1, 0)], h_b226_12),
  ([(2, 83, 0), (11, 0, 4294967295), (0, 13, 0), (11, 2147483648, 2147483656), (11, 2147483647, 2147483653)], [(2147483648, 2147583648, 0, 0), (2147483654, 2147483654, 1, 0)], h_b226_13),
  ([(2, 83, 0), (11, 0, 4294967295), (0, 14, 0), (11, 2147483648, 2147483656), (11, 2147483647, 2147483653)], [(2147483648, 2147583648, 0, 0), (2147483654, 2147483654, 1, 0)], h_b226_14),
  ([(2, 83, 0), (11, 0, 4294967295), (0, 15, 0), (11, 2147483648, 2147483656), (11, 2147483647, 2147483653)], [(2147483648, 2147583648, 0, 0), (2147483654, 2147483654, 1, 0)], h_b226_15),
  ([(2, 83, 0), (11, 0, 4294967295), (0, 16, 0), (11, 2147483648, 2147483656), (11, 2147483647, 2147483653)], [(2147483648, 2147583648, 0, 0), (2147483654, 2147483654, 1, 0)], h_b226_16),
  ([(2, 83, 0), (11, 0, 4294967295), (0, 17, 0), (11, 2147483648, 2147483656), (11, 2147483647, 2147483653)], [(2147483648, 2147583648, 0, 0), (2147483654, 2147483654, 1, 0)], h_b226_17),
  ([(2, 83, 0), (11, 0, 4294967295), (0, 18, 0), (11, 2147483648, 2147483656), (11, 2147483647, 2147483653)], [(2147483648, 2147583648, 0, 0), (2147483654, 2147483654, 1, 0)], h_b226_18),
  ([(2, 83, 0), (11, 0, 4294967295), (0, 19, 0), (11, 2147483648, 2147483656), (11, 2147483647, 2147483653)], [(2147483648, 2147583648, 0, 0), (2147483654, 2147483654, 1, 0)], h_b226_19),
  ([(2, 83, 0), (11, 0, 4294967295), (0, 20, 0), (11, 2147483648, 2147483656), (11, 2147483647, 2147483653)], [(2147483648, 2147583648, 0, 0), (2147483654, 2147483654, 1, 0)], h_b226_20),
  ([(2, 83, 0), (11, 0, 4294967295), (0, 21, 0), (11, 2147483648, 2147483653), (11, 2147483648, 2147483653)], [(2147483648, 2147583648, 0, 0), (2147483654, 2147483654, 1, 0)], h_b226_21),
  ([(2, 83, 0), (11, 0, 4294967295), (0, 22, 0), (11, 2147483648, 2147483653), (11, 2147483648, 2147483653)], [(2147483648, 2147583648, 0, 0), (2147483654, 2147483654, 1, 0)], h_b226_22),
  ([(2, 83, 0), (11, 0, 4294967295), (0, 23, 0), (11, 2147483648, 2147483653), (11, 2147483648, 2147483653)], [(2147483648, 2147583648, 0, 0), (2147483654, 2147483654, 1, 0)], h_b226_23),
  ([(2, 83, 0), (11, 0, 4294967295), (0, 24, 0), (11, 2147483648, 2147483653), (11, 2147483648, 2147483653)], [(2147483648, 2147583648, 0, 0), (2147483654, 2147483654, 1, 0)], h_b226_24),
  ([(2, 83, 0), (11, 0, 4294967295), (0, 25, 0), (11, 2147483648, 2147483653), (11, 2147483648, 2147483653)], [(2147483648, 2147583648, 0, 0), (2147483654, 2147483654, 1, 0)], h_b226_25)]
noncomputable def cl_b226_e : List (Nat × e2_S) := [(2, e2_cutL (al_b226_26.set 2 (11, 2147483648, 2147483657)) 2 (E_b226_26.take 2) h_b226_26)]
set_option maxRecDepth 1000000 in
theorem ck_b226_e : e2_run (e2_orG 231 83 11 2 2147483648 2147483668 as_b219 Eb_b219 f_b219 rs_b219 (e2_cal S_b226 I_b226 4000 1)) (e2_fin rs_b226) e2x_230 (e2_bpL cl_b226_e) (e2_cutA cl_b226_e) 4000 (e2_seek e2x_230 0) (e2_al 5 as_b226) [] E_b226 f_b226 = true := by decide +kernel
noncomputable def cl_b226_26 : List (Nat × e2_S) := [(2, e2_cutL (al_b226_26.set 2 (13, 10, 2147483657)) 2 (E_b226_26.take 2) h_b226_26),
  (49, e2_cutL (al_b226_27.set 2 (11, 2147483647, 2147483667)) 2 (E_b226_27.take 2) h_b226_27)]
set_option maxRecDepth 1000000 in
theorem ck_b226_26 : e2_runM (e2_orG 231 83 11 2 2147483648 2147483668 as_b219 Eb_b219 f_b219 rs_b219 (e2_cal S_b226 I_b226 4000 1)) (e2_fin rs_b226) e2x_230 (e2_bpL cl_b226_26) (e2_cutA cl_b226_26) 4000 (e2_seek e2x_230 2) al_b226_26 [] E_b226_26 h_b226_26 = true := by decide +kernel
set_option maxRecDepth 1000000 in
theorem ci_b226_26 : e2_idl 2 (al_b226_26.set 2 (9, 0, 0)) = true := by decide +kernel
set_option maxRecDepth 1000000 in
theorem cj_b226_26 : e2_idh 2 8 h_b226_26 = true := by decide +kernel
noncomputable def cl_b226_27 : List (Nat × e2_S) := [(120, e2_cutS cu_b226_120),
  (55, e2_cutL (al_b226_28.set 3 (11, 2147483648, 2147483657)) 3 (E_b226_28.take 3) h_b226_28)]
set_option maxRecDepth 1000000 in
theorem ck_b226_27 : e2_runM (e2_orG 231 83 11 2 2147483648 2147483668 as_b219 Eb_b219 f_b219 rs_b219 (e2_cal S_b226 I_b226 4000 1)) (e2_fin rs_b226) e2x_230 (e2_bpL cl_b226_27) (e2_cutA cl_b226_27) 4000 (e2_seek e2x_230 49) al_b226_27 [] E_b226_27 h_b226_27 = true := by decide +kernel
set_option maxRecDepth 1000000 in
theorem ci_b226_27 : e2_idl 2 (al_b226_27.set 2 (9, 0, 0)) = true := by decide +kernel
set_option maxRecDepth 1000000 in
theorem cj_b226_27 : e2_idh 2 8 h_b226_27 = true := by decide +kernel
noncomputable def cl_b226_28 : List (Nat × e2_S) := [(49, e2_cutL (al_b226_27.set 2 (12, 10, 2147483647)) 2 (E_b226_27.take 2) h_b226_27),
  (55, e2_cutL (al_b226_28.set 3 (13, 11, 2147483657)) 3 (E_b226_28.take 3) h_b226_28)]
set_option maxRecDepth 1000000 in
theorem ck_b226_28 : e2_runM (e2_orG 231 83 11 2 2147483648 2147483668 as_b219 Eb_b219 f_b219 rs_b219 (e2_cal S_b226 I_b226 4000 1)) (e2_fin rs_b226) e2x_230 (e2_bpL cl_b226_28) (e2_cutA cl_b226_28) 4000 (e2_seek e2x_230 55) al_b226_28 [] E_b226_28 h_b226_28 = true := by decide +kernel
set_option maxRecDepth 1000000 in
theorem ci_b226_28 : e2_idl 3 (al_b226_28.set 3 (9, 0, 0)) = true := by decide +kernel
set_option maxRecDepth 1000000 in
theorem cj_b226_28 : e2_idh 3 8 h_b226_28 = true := by decide +kernel
set_option maxRecDepth 1000000 in
theorem ck_b226_u120 : e2_cutsB (e2_orG 231 83 11 2 2147483648 2147483668 as_b219 Eb_b219 f_b219 rs_b219 (e2_cal S_b226 I_b226 4000 1)) (e2_fin rs_b226) e2x_230 120 4000 cu_b226_120 = true := by decide +kernel
theorem cs_b226 (hen : en_ok) (l : Launch) : e2_smOk l 5 s_b226 := by
  refine e2_conC (H := 4) (C := evd_230) ei_230 (fun d hd => (e2_orG_ok (e2_cal_ok hen (e2_fa (cs_b218 hen l) e2_fz) (e2_fa ein_216 (e2_fa ein_217 (e2_fa ein_227 e2_fz))) 1 d (by omega)) rfl (by decide) (fun M hM => (cs_b219 hen l).2 M hM d (by omega)) (e2_okGB_ok cog_b219))) (by decide) co_b226 fun M d _ hC hcall p e R s m args below meth c Q D cA A ads r0 ha hl0 => ?_
  have EN_120 := e2_cutS_ok (bp := 120) (cuts := cu_b226_120) (e2_cuts_len hl0 (by decide +kernel)) (e2_cuts_ok hen ha hcall (hC [192, 195]) (X := e2x_230) ex2_230 (e2_cuts_len hl0 (by decide +kernel)) ck_b226_u120)
  have L_27 : e2_gdM M p l e R s m args below meth c Q D cA A ads r0 49 al_b226_27 [] E_b226_27 h_b226_27 := by
    refine e2_indD (u := 2) (j := 2) (lo := 2147483647) (hi := 2147483667) hl0 (by decide) rfl rfl rfl ci_b226_27 cj_b226_27 ?_
    intro r_27 k_27 hk_27 hp_27 hs_27 hn_27
    have hl_27 : r_27.length ≤ 3 := hs_27.len rfl
    have ha_27 := ha.ext hp_27
    have L_28 : e2_gdM M p l e R s m args below meth c Q D cA A ads r_27 55 al_b226_28 [] E_b226_28 h_b226_28 := by
      refine e2_indL (u := 3) (j := 3) (lo := 2147483648) (hi := 2147483657) (b := 3) (dd := 0) hl_27 (by decide) rfl rfl (Or.inr ⟨rfl, rfl⟩) rfl ci_b226_28 cj_b226_28 ?_
      intro r_28 k_28 hk_28 hp_28 hs_28 hn_28
      have hl_28 : r_28.length ≤ 4 := hs_28.len rfl
      have ha_28 := ha_27.ext hp_28
      exact e2_fromM hen ha_28 hcall (e2_cutA_ok (e2_fa (fun al st E h hc => (hn_27 al st E h hc).ext hp_28) (e2_fa (fun al st E h hc => hn_28 al st E h hc) e2_fz))) (hC [192, 195]) (X := e2x_230) ex2_230 55 ck_b226_28
    have EN_28 := e2_entL (u := 3) (j := 3) (lo := 2147483648) (hi := 2147483657) hl_27 rfl rfl rfl ci_b226_28 cj_b226_28 L_28
    exact e2_fromM hen ha_27 hcall (e2_cutA_ok (e2_fa (fun al st E h hc => (EN_120 al st E h hc).ext hp_27) (e2_fa (fun al st E h hc => EN_28 al st E h hc) e2_fz))) (hC [192, 195]) (X := e2x_230) ex2_230 49 ck_b226_27
  have EN_27 := e2_entL (u := 2) (j := 2) (lo := 2147483647) (hi := 2147483667) hl0 rfl rfl rfl ci_b226_27 cj_b226_27 L_27
  have L_26 : e2_gdM M p l e R s m args below meth c Q D cA A ads r0 2 al_b226_26 [] E_b226_26 h_b226_26 := by
    refine e2_indL (u := 2) (j := 2) (lo := 2147483648) (hi := 2147483657) (b := 2) (dd := 0) hl0 (by decide) rfl rfl (Or.inr ⟨rfl, rfl⟩) rfl ci_b226_26 cj_b226_26 ?_
    intro r_26 k_26 hk_26 hp_26 hs_26 hn_26
    have hl_26 : r_26.length ≤ 3 := hs_26.len rfl
    have ha_26 := ha.ext hp_26
    exact e2_fromM hen ha_26 hcall (e2_cutA_ok (e2_fa (fun al st E h hc => hn_26 al st E h hc) (e2_fa (fun al st E h hc => (EN_27 al st E h hc).ext hp_26) e2_fz))) (hC [192, 195]) (X := e2x_230) ex2_230 2 ck_b226_26
  have EN_26 := e2_entL (u := 2) (j := 2) (lo := 2147483648) (hi := 2147483657) hl0 rfl rfl rfl ci_b226_26 cj_b226_26 L_26
  exact e2_from hen ha hcall (e2_cutA_ok (e2_fa (fun al st E h hc => EN_26 al st E h hc) e2_fz)) (hC [192, 195]) (X := e2x_230) ex2_230 0 ck_b226_e
/-! b227 X10_read -/
def as_b227 : List ev_V := [(2, 83, 0), (11, 0, 4294967295)]
def E_b227 : e2_E := [(2147483648, 2147583648, 0, 0), (2147483655, 2147483655, 1, 0)]
def bc225 : ev_C := (50, [(11, 2147483649, 2147483654), (11, 2147483649, 2147483654), (11, 2147483649, 2147483654), (11, 2147483649, 2147483654), (11, 2147483649, 2147483654), (11, 2147483649, 2147483654), (11, 2147483649, 2147483654), (11, 2147483648, 2147483654), (11, 2147483648, 2147483654), (11, 2147483648, 2147483654), (11, 2147483648, 2147483654), (11, 2147483648, 2147483654), (11, 2147483648, 2147483654), (11, 2147483648, 2147483654), (11, 2147483648, 2147483654), (11, 2147483648, 2147483654)])
def bn1815 : e2_Q1 := (bc225, bc3)
def bn1816 : e2_Q2 := (bn130, bn1815)
def bn1817 : e2_Q3 := (bn129, bn1816)
def bn1818 : e2_Q4 := (bn1817, bn1335)
def bn1819 : e2_Q5 := (bn1818, bn156)
def bn1820 : e2_Q6 := (bn1819, bn1383)
def bn1821 : e2_Q7 := (bn1820, bn1356)
def bn1822 : e2_Q8 := (bn1373, bn1821)
noncomputable def f_b227 : ev_H := (bn1822 : e2_Q8)
noncomputable def q_b227_0 : ev_H := (bn1822 : e2_Q8)
noncomputable def rs_b227 : e2_Rs := [((11, 2147483647, 2147483668), q_b227_0)]
noncomputable def s_b227 : e2_Sm := (230, as_b227, E_b227, f_b227, rs_b227)
noncomputable def S_b227 : List e2_Sm := [s_b218]
noncomputable def I_b227 : List e2_In := [(216, 1, e2x_216), (217, 1, e2x_217), (227, 2, e2x_227)]
set_option maxRecDepth 1000000 in
theorem co_b227 : e2_okSB E_b227.length as_b227 f_b227 rs_b227 = true := by decide +kernel
def al_b227_26 : List ev_V := [(2, 83, 0), (11, 0, 4294967295), (1, 2, 4294967296), (9, 0, 0), (9, 0, 0)]
def E_b227_26 : e2_E := [(2147483648, 2147583648, 0, 0), (2147483655, 2147483655, 1, 0), (2147483648, 2147483657, 2, 0)]
noncomputable def h_b227_26 : ev_H := (bn1822 : e2_Q8)
def al_b227_27 : List ev_V := [(2, 83, 0), (11, 0, 4294967295), (1, 2, 4294967296), (9, 0, 0), (9, 0, 0)]
def E_b227_27 : e2_E := [(2147483648, 2147583648, 0, 0), (2147483655, 2147483655, 1, 0), (2147483647, 2147483667, 2, 0)]
noncomputable def h_b227_27 : ev_H := (bn1822 : e2_Q8)
def al_b227_28 : List ev_V := [(2, 83, 0), (11, 0, 4294967295), (1, 2, 4294967296), (1, 3, 4294967296), (9, 0, 0)]
def E_b227_28 : e2_E := [(2147483648, 2147583648, 0, 0), (2147483655, 2147483655, 1, 0), (2147483648, 2147483667, 2, 0), (2147483648, 2147483657, 3, 0)]
noncomputable def h_b227_28 : ev_H := (bn1822 : e2_Q8)
def bn1823 : e2_Q7 := (bn1820, bn1392)
def bn1824 : e2_Q8 := (bn1373, bn1823)
noncomputable def h_b227_0 : ev_H := (bn1824 : e2_Q8)
def bn1825 : e2_Q7 := (bn1820, bn1410)
def bn1826 : e2_Q8 := (bn1373, bn1825)
noncomputable def h_b227_1 : ev_H := (bn1826 : e2_Q8)
def bn1827 : e2_Q7 := (bn1820, bn1418)
def bn1828 : e2_Q8 := (bn1373, bn1827)
noncomputable def h_b227_2 : ev_H := (bn1828 : e2_Q8)
def bn1829 : e2_Q7 := (bn1820, bn1426)
def bn1830 : e2_Q8 := (bn1373, bn1829)
noncomputable def h_b227_3 : ev_H := (bn1830 : e2_Q8)
def bn1831 : e2_Q7 := (bn1820, bn1434)
def bn1832 : e2_Q8 := (bn1373, bn1831)
noncomputable def h_b227_4 : ev_H := (bn1832 : e2_Q8)
def bn1833 : e2_Q7 := (bn1820, bn1442)
def bn1834 : e2_Q8 := (bn1373, bn1833)
noncomputable def h_b227_5 : ev_H := (bn1834 : e2_Q8)
def bn1835 : e2_Q7 := (bn1820, bn1450)
def bn1836 : e2_Q8 := (bn1373, bn1835)
noncomputable def h_b227_6 : ev_H := (bn1836 : e2_Q8)
def bn1837 : e2_Q7 := (bn1820, bn1458)
def bn1838 : e2_Q8 := (bn1373, bn1837)
noncomputable def h_b227_7 : ev_H := (bn1838 : e2_Q8)
def bn1839 : e2_Q7 := (bn1820, bn1466)
def bn1840 : e2_Q8 := (bn1373, bn1839)
noncomputable def h_b227_8 : ev_H := (bn1840 : e2_Q8)
def bn1841 : e2_Q7 := (bn1820, bn1474)
def bn1842 : e2_Q8 := (bn1373, bn1841)
noncomputable def h_b227_9 : ev_H := (bn1842 : e2_Q8)
def bn1843 : e2_Q7 := (bn1820, bn1482)
def bn1844 : e2_Q8 := (bn1373, bn1843)
noncomputable def h_b227_10 : ev_H := (bn1844 : e2_Q8)
def bn1845 : e2_Q7 := (bn1820, bn1490)
def bn1846 : e2_Q8 := (bn1373, bn1845)
noncomputable def h_b227_11 : ev_H := (bn1846 : e2_Q8)
def bn1847 : e2_Q7 := (bn1820, bn1498)
def bn1848 : e2_Q8 := (bn1373, bn1847)
noncomputable def h_b227_12 : ev_H := (bn1848 : e2_Q8)
def bn1849 : e2_Q7 := (bn1820, bn1506)
def bn1850 : e2_Q8 := (bn1373, bn1849)
noncomputable def h_b227_13 : ev_H := (bn1850 : e2_Q8)
def bn1851 : e2_Q7 := (bn1820, bn1514)
def bn1852 : e2_Q8 := (bn1373, bn1851)
noncomputable def h_b227_14 : ev_H := (bn1852 : e2_Q8)
def bn1853 : e2_Q7 := (bn1820, bn1522)
def bn1854 : e2_Q8 := (bn1373, bn1853)
noncomputable def h_b227_15 : ev_H := (bn1854 : e2_Q8)
def bn1855 : e2_Q7 := (bn1820, bn1530)
def bn1856 : e2_Q8 := (bn1373, bn1855)
noncomputable def h_b227_16 : ev_H := (bn1856 : e2_Q8)
def bn1857 : e2_Q7 := (bn1820, bn1538)
def bn1858 : e2_Q8 := (bn1373, bn1857)
noncomputable def h_b227_17 : ev_H := (bn1858 : e2_Q8)
def bn1859 : e2_Q7 := (bn1820, bn1546)
def bn1860 : e2_Q8 := (bn1373, bn1859)
noncomputable def h_b227_18 : ev_H := (bn1860 : e2_Q8)
def bn1861 : e2_Q7 := (bn1820, bn1554)
def bn1862 : e2_Q8 := (bn1373, bn1861)
noncomputable def h_b227_19 : ev_H := (bn1862 : e2_Q8)
noncomputable def h_b227_20 : ev_H := (bn1822 : e2_Q8)
def bn1863 : e2_Q7 := (bn1820, bn1562)
def bn1864 : e2_Q8 := (bn1373, bn1863)
noncomputable def h_b227_21 : ev_H := (bn1864 : e2_Q8)
noncomputable def h_b227_22 : ev_H := (bn1864 : e2_Q8)
noncomputable def h_b227_23 : ev_H := (bn1864 : e2_Q8)
noncomputable def h_b227_24 : ev_H := (bn1864 : e2_Q8)
noncomputable def h_b227_25 : ev_H := (bn1864 : e2_Q8)
noncomputable def cu_b227_120 : List e2_Cu := [([(2, 83, 0), (11, 0, 4294967295), (0, 0, 0), (0, 8, 0), (9, 0, 0)], [(2147483648, 2147583648, 0, 0), (2147483655, 2147483655, 1, 0)], h_b227_0),
  ([(2, 83, 0), (11, 0, 4294967295), (0, 1, 0), (11, 2147483648, 2147483656), (11, 2147483647, 2147483654)], [(2147483648, 2147583648, 0, 0), (2147483655, 2147483655, 1, 0)], h_b227_1),
  ([(2, 83, 0), (11, 0, 4294967295), (0, 2, 0), (11, 2147483648, 2147483656), (11, 2147483647, 2147483654)], [(2147483648, 2147583648, 0, 0), (2147483655, 2147483655, 1, 0)], h_b227_2),
  ([(2, 83, 0), (11, 0, 4294967295), (0, 3, 0), (11, 2147483648, 2147483656), (11, 2147483647, 2147483654)], [(2147483648, 2147583648, 0, 0), (2147483655, 2147483655, 1, 0)], h_b227_3),
  ([(2, 83, 0), (11, 0, 4294967295), (0, 4, 0), (11, 2147483648, 2147483656), (11, 2147483647, 2147483654)], [(2147483648, 2147583648, 0, 0), (2147483655, 2147483655, 1, 0)], h_b227_4),
  ([(2, 83, 0), (11, 0, 4294967295), (0, 5, 0), (11, 2147483648, 2147483656), (11, 2147483647, 2147483654)], [(2147483648, 2147583648, 0, 0), (2147483655, 2147483655, 1, 0)], h_b227_5),
  ([(2, 83, 0), (11, 0, 4294967295), (0, 6, 0), (11, 2147483648, 2147483656), (11, 2147483647, 2147483654)], [(2147483648, 2147583648, 0, 0), (2147483655, 2147483655, 1, 0)], h_b227_6),
  ([(2, 83, 0), (11, 0, 4294967295), (0, 7, 0), (11, 2147483648, 2147483656), (11, 2147483647, 2147483654)], [(2147483648, 2147583648, 0, 0), (2147483655, 2147483655, 1, 0)], h_b227_7),
  ([(2, 83, 0), (11, 0, 4294967295), (0, 8, 0), (11, 2147483648, 2147483656), (11, 2147483647, 2147483654)], [(2147483648, 2147583648, 0, 0), (2147483655, 2147483655, 1, 0)], h_b227_8),
  ([(2, 83, 0), (11, 0, 4294967295), (0, 9, 0), (11, 2147483648, 2147483656), (11, 2147483647, 2147483654)], [(2147483648, 2147583648, 0, 0), (2147483655, 2147483655, 1, 0)], h_b227_9),
  ([(2, 83, 0), (11, 0, 4294967295), (0, 10, 0), (11, 2147483648, 2147483656), (11, 2147483647, 2147483654)], [(2147483648, 2147583648, 0, 0), (2147483655, 2147483655, 1, 0)], h_b227_10),
  ([(2, 83, 0), (11, 0, 4294967295), (0, 11, 0), (11, 2147483648, 2147483656), (11, 2147483647, 2147483654)], [(2147483648, 2147583648, 0, 0), (2147483655, 2147483655, 1, 0)], h_b227_11),
  ([(2, 83, 0), (11, 0, 4294967295), (0, 12, 0), (11, 2147483648, 2147483656), (11, 2147483647, 2147483654)], [(2147483648, 2147583648, 0, 0), (2147483655, 2147483655, 1, 0)], h_b227_12),
  ([(2, 83, 0), (11, 0, 4294967295), (0, 13, 0), (11, 2147483648, 2147483656), (11, 2147483647, 2147483654)], [(2147483648, 2147583648, 0, 0), (2147483655, 2147483655, 1, 0)], h_b227_13),
  ([(2, 83, 0), (11, 0, 4294967295), (0, 14, 0), (11, 2147483648, 2147483656), (11, 2147483647, 2147483654)], [(2147483648, 2147583648, 0, 0), (2147483655, 2147483655, 1, 0)], h_b227_14),
  ([(2, 83, 0), (11, 0, 4294967295), (0, 15, 0), (11, 2147483648, 2147483656), (11, 2147483647, 2147483654)], [(2147483648, 2147583648, 0, 0), (2147483655, 2147483655, 1, 0)], h_b227_15),
  ([(2, 83, 0), (11, 0, 4294967295), (0, 16, 0), (11, 2147483648, 2147483656), (11, 2147483647, 2147483654)], [(2147483648, 2147583648, 0, 0), (2147483655, 2147483655, 1, 0)], h_b227_16),
  ([(2, 83, 0), (11, 0, 4294967295), (0, 17, 0), (11, 2147483648, 2147483656), (11, 2147483647, 2147483654)], [(2147483648, 2147583648, 0, 0), (2147483655, 2147483655, 1, 0)], h_b227_17),
  ([(2, 83, 0), (11, 0, 4294967295), (0, 18, 0), (11, 2147483648, 2147483656), (11, 2147483647, 2147483654)], [(2147483648, 2147583648, 0, 0), (2147483655, 2147483655, 1, 0)], h_b227_18),
  ([(2, 83, 0), (11, 0, 4294967295), (0, 19, 0), (11, 2147483648, 2147483656), (11, 2147483647, 2147483654)], [(2147483648, 2147583648, 0, 0), (2147483655, 2147483655, 1, 0)], h_b227_19),
  ([(2, 83, 0), (11, 0, 4294967295), (0, 20, 0), (11, 2147483648, 2147483656), (11, 2147483647, 2147483654)], [(2147483648, 2147583648, 0, 0), (2147483655, 2147483655, 1, 0)], h_b227_20),
  ([(2, 83, 0), (11, 0, 4294967295), (0, 21, 0), (11, 2147483648, 2147483654), (11, 2147483648, 2147483654)], [(2147483648, 2147583648, 0, 0), (2147483655, 2147483655, 1, 0)], h_b227_21),
  ([(2, 83, 0), (11, 0, 4294967295), (0, 22, 0), (11, 2147483648, 2147483654), (11, 2147483648, 2147483654)], [(2147483648, 2147583648, 0, 0), (2147483655, 2147483655, 1, 0)], h_b227_22),
  ([(2, 83, 0), (11, 0, 4294967295), (0, 23, 0), (11, 2147483648, 2147483654), (11, 2147483648, 2147483654)], [(2147483648, 2147583648, 0, 0), (2147483655, 2147483655, 1, 0)], h_b227_23),
  ([(2, 83, 0), (11, 0, 4294967295), (0, 24, 0), (11, 2147483648, 2147483654), (11, 2147483648, 2147483654)], [(2147483648, 2147583648, 0, 0), (2147483655, 2147483655, 1, 0)], h_b227_24),
  ([(2, 83, 0), (11, 0, 4294967295), (0, 25, 0), (11, 2147483648, 2147483654), (11, 2147483648, 2147483654)], [(2147483648, 2147583648, 0, 0), (2147483655, 2147483655, 1, 0)], h_b227_25)]
noncomputable def cl_b227_e : List (Nat × e2_S) := [(2, e2_cutL (al_b227_26.set 2 (11, 2147483648, 2147483657)) 2 (E_b227_26.take 2) h_b227_26)]
set_option maxRecDepth 1000000 in
theorem ck_b227_e : e2_run (e2_orG 231 83 11 2 2147483648 2147483668 as_b219 Eb_b219 f_b219 rs_b219 (e2_cal S_b227 I_b227 4000 1)) (e2_fin rs_b227) e2x_230 (e2_bpL cl_b227_e) (e2_cutA cl_b227_e) 4000 (e2_seek e2x_230 0) (e2_al 5 as_b227) [] E_b227 f_b227 = true := by decide +kernel
noncomputable def cl_b227_26 : List (Nat × e2_S) := [(2, e2_cutL (al_b227_26.set 2 (13, 10, 2147483657)) 2 (E_b227_26.take 2) h_b227_26),
  (49, e2_cutL (al_b227_27.set 2 (11, 2147483647, 2147483667)) 2 (E_b227_27.take 2) h_b227_27)]
set_option maxRecDepth 1000000 in
theorem ck_b227_26 : e2_runM (e2_orG 231 83 11 2 2147483648 2147483668 as_b219 Eb_b219 f_b219 rs_b219 (e2_cal S_b227 I_b227 4000 1)) (e2_fin rs_b227) e2x_230 (e2_bpL cl_b227_26) (e2_cutA cl_b227_26) 4000 (e2_seek e2x_230 2) al_b227_26 [] E_b227_26 h_b227_26 = true := by decide +kernel
set_option maxRecDepth 1000000 in
theorem ci_b227_26 : e2_idl 2 (al_b227_26.set 2 (9, 0, 0)) = true := by decide +kernel
set_option maxRecDepth 1000000 in
theorem cj_b227_26 : e2_idh 2 8 h_b227_26 = true := by decide +kernel
noncomputable def cl_b227_27 : List (Nat × e2_S) := [(120, e2_cutS cu_b227_120),
  (55, e2_cutL (al_b227_28.set 3 (11, 2147483648, 2147483657)) 3 (E_b227_28.take 3) h_b227_28)]
set_option maxRecDepth 1000000 in
theorem ck_b227_27 : e2_runM (e2_orG 231 83 11 2 2147483648 2147483668 as_b219 Eb_b219 f_b219 rs_b219 (e2_cal S_b227 I_b227 4000 1)) (e2_fin rs_b227) e2x_230 (e2_bpL cl_b227_27) (e2_cutA cl_b227_27) 4000 (e2_seek e2x_230 49) al_b227_27 [] E_b227_27 h_b227_27 = true := by decide +kernel
set_option maxRecDepth 1000000 in
theorem ci_b227_27 : e2_idl 2 (al_b227_27.set 2 (9, 0, 0)) = true := by decide +kernel
set_option maxRecDepth 1000000 in
theorem cj_b227_27 : e2_idh 2 8 h_b227_27 = true := by decide +kernel
noncomputable def cl_b227_28 : List (Nat × e2_S) := [(49, e2_cutL (al_b227_27.set 2 (12, 10, 2147483647)) 2 (E_b227_27.take 2) h_b227_27),
  (55, e2_cutL (al_b227_28.set 3 (13, 11, 2147483657)) 3 (E_b227_28.take 3) h_b227_28)]
set_option maxRecDepth 1000000 in
theorem ck_b227_28 : e2_runM (e2_orG 231 83 11 2 2147483648 2147483668 as_b219 Eb_b219 f_b219 rs_b219 (e2_cal S_b227 I_b227 4000 1)) (e2_fin rs_b227) e2x_230 (e2_bpL cl_b227_28) (e2_cutA cl_b227_28) 4000 (e2_seek e2x_230 55) al_b227_28 [] E_b227_28 h_b227_28 = true := by decide +kernel
set_option maxRecDepth 1000000 in
theorem ci_b227_28 : e2_idl 3 (al_b227_28.set 3 (9, 0, 0)) = true := by decide +kernel
set_option maxRecDepth 1000000 in
theorem cj_b227_28 : e2_idh 3 8 h_b227_28 = true := by decide +kernel
set_option maxRecDepth 1000000 in
theorem ck_b227_u120 : e2_cutsB (e2_orG 231 83 11 2 2147483648 2147483668 as_b219 Eb_b219 f_b219 rs_b219 (e2_cal S_b227 I_b227 4000 1)) (e2_fin rs_b227) e2x_230 120 4000 cu_b227_120 = true := by decide +kernel
theorem cs_b227 (hen : en_ok) (l : Launch) : e2_smOk l 5 s_b227 := by
  refine e2_conC (H := 4) (C := evd_230) ei_230 (fun d hd => (e2_orG_ok (e2_cal_ok hen (e2_fa (cs_b218 hen l) e2_fz) (e2_fa ein_216 (e2_fa ein_217 (e2_fa ein_227 e2_fz))) 1 d (by omega)) rfl (by decide) (fun M hM => (cs_b219 hen l).2 M hM d (by omega)) (e2_okGB_ok cog_b219))) (by decide) co_b227 fun M d _ hC hcall p e R s m args below meth c Q D cA A ads r0 ha hl0 => ?_
  have EN_120 := e2_cutS_ok (bp := 120) (cuts := cu_b227_120) (e2_cuts_len hl0 (by decide +kernel)) (e2_cuts_ok hen ha hcall (hC [192, 195]) (X := e2x_230) ex2_230 (e2_cuts_len hl0 (by decide +kernel)) ck_b227_u120)
  have L_27 : e2_gdM M p l e R s m args below meth c Q D cA A ads r0 49 al_b227_27 [] E_b227_27 h_b227_27 := by
    refine e2_indD (u := 2) (j := 2) (lo := 2147483647) (hi := 2147483667) hl0 (by decide) rfl rfl rfl ci_b227_27 cj_b227_27 ?_
    intro r_27 k_27 hk_27 hp_27 hs_27 hn_27
    have hl_27 : r_27.length ≤ 3 := hs_27.len rfl
    have ha_27 := ha.ext hp_27
    have L_28 : e2_gdM M p l e R s m args below meth c Q D cA A ads r_27 55 al_b227_28 [] E_b227_28 h_b227_28 := by
      refine e2_indL (u := 3) (j := 3) (lo := 2147483648) (hi := 2147483657) (b := 3) (dd := 0) hl_27 (by decide) rfl rfl (Or.inr ⟨rfl, rfl⟩) rfl ci_b227_28 cj_b227_28 ?_
      intro r_28 k_28 hk_28 hp_28 hs_28 hn_28
      have hl_28 : r_28.length ≤ 4 := hs_28.len rfl
      have ha_28 := ha_27.ext hp_28
      exact e2_fromM hen ha_28 hcall (e2_cutA_ok (e2_fa (fun al st E h hc => (hn_27 al st E h hc).ext hp_28) (e2_fa (fun al st E h hc => hn_28 al st E h hc) e2_fz))) (hC [192, 195]) (X := e2x_230) ex2_230 55 ck_b227_28
    have EN_28 := e2_entL (u := 3) (j := 3) (lo := 2147483648) (hi := 2147483657) hl_27 rfl rfl rfl ci_b227_28 cj_b227_28 L_28
    exact e2_fromM hen ha_27 hcall (e2_cutA_ok (e2_fa (fun al st E h hc => (EN_120 al st E h hc).ext hp_27) (e2_fa (fun al st E h hc => EN_28 al st E h hc) e2_fz))) (hC [192, 195]) (X := e2x_230) ex2_230 49 ck_b227_27
  have EN_27 := e2_entL (u := 2) (j := 2) (lo := 2147483647) (hi := 2147483667) hl0 rfl rfl rfl ci_b227_27 cj_b227_27 L_27
  have L_26 : e2_gdM M p l e R s m args below meth c Q D cA A ads r0 2 al_b227_26 [] E_b227_26 h_b227_26 := by
    refine e2_indL (u := 2) (j := 2) (lo := 2147483648) (hi := 2147483657) (b := 2) (dd := 0) hl0 (by decide) rfl rfl (Or.inr ⟨rfl, rfl⟩) rfl ci_b227_26 cj_b227_26 ?_
    intro r_26 k_26 hk_26 hp_26 hs_26 hn_26
    have hl_26 : r_26.length ≤ 3 := hs_26.len rfl
    have ha_26 := ha.ext hp_26
    exact e2_fromM hen ha_26 hcall (e2_cutA_ok (e2_fa (fun al st E h hc => hn_26 al st E h hc) (e2_fa (fun al st E h hc => (EN_27 al st E h hc).ext hp_26) e2_fz))) (hC [192, 195]) (X := e2x_230) ex2_230 2 ck_b227_26
  have EN_26 := e2_entL (u := 2) (j := 2) (lo := 2147483648) (hi := 2147483657) hl0 rfl rfl rfl ci_b227_26 cj_b227_26 L_26
  exact e2_from hen ha hcall (e2_cutA_ok (e2_fa (fun al st E h hc => EN_26 al st E h hc) e2_fz)) (hC [192, 195]) (X := e2x_230) ex2_230 0 ck_b227_e
/-! b228 X10_read -/
def as_b228 : List ev_V := [(2, 83, 0), (11, 0, 4294967295)]
def E_b228 : e2_E := [(2147483648, 2147583648, 0, 0), (2147483656, 2147483656, 1, 0)]
def bc226 : ev_C := (50, [(11, 2147483649, 2147483654), (11, 2147483649, 2147483654), (11, 2147483649, 2147483654), (11, 2147483649, 2147483654), (11, 2147483649, 2147483654), (11, 2147483649, 2147483654), (11, 2147483649, 2147483654), (11, 2147483649, 2147483654), (11, 2147483648, 2147483654), (11, 2147483648, 2147483654), (11, 2147483648, 2147483654), (11, 2147483648, 2147483654), (11, 2147483648, 2147483654), (11, 2147483648, 2147483654), (11, 2147483648, 2147483654), (11, 2147483648, 2147483654)])
def bn1865 : e2_Q1 := (bc226, bc3)
def bn1866 : e2_Q2 := (bn130, bn1865)
def bn1867 : e2_Q3 := (bn129, bn1866)
def bn1868 : e2_Q4 := (bn1867, bn1335)
def bn1869 : e2_Q5 := (bn1868, bn156)
def bn1870 : e2_Q6 := (bn1869, bn1383)
def bn1871 : e2_Q7 := (bn1870, bn1356)
def bn1872 : e2_Q8 := (bn1373, bn1871)
noncomputable def f_b228 : ev_H := (bn1872 : e2_Q8)
noncomputable def q_b228_0 : ev_H := (bn1872 : e2_Q8)
noncomputable def rs_b228 : e2_Rs := [((11, 2147483647, 2147483668), q_b228_0)]
noncomputable def s_b228 : e2_Sm := (230, as_b228, E_b228, f_b228, rs_b228)
noncomputable def S_b228 : List e2_Sm := [s_b218]
noncomputable def I_b228 : List e2_In := [(216, 1, e2x_216), (217, 1, e2x_217), (227, 2, e2x_227)]
set_option maxRecDepth 1000000 in
theorem co_b228 : e2_okSB E_b228.length as_b228 f_b228 rs_b228 = true := by decide +kernel
def al_b228_26 : List ev_V := [(2, 83, 0), (11, 0, 4294967295), (1, 2, 4294967296), (9, 0, 0), (9, 0, 0)]
def E_b228_26 : e2_E := [(2147483648, 2147583648, 0, 0), (2147483656, 2147483656, 1, 0), (2147483648, 2147483657, 2, 0)]
noncomputable def h_b228_26 : ev_H := (bn1872 : e2_Q8)
def al_b228_27 : List ev_V := [(2, 83, 0), (11, 0, 4294967295), (1, 2, 4294967296), (9, 0, 0), (9, 0, 0)]
def E_b228_27 : e2_E := [(2147483648, 2147583648, 0, 0), (2147483656, 2147483656, 1, 0), (2147483647, 2147483667, 2, 0)]
noncomputable def h_b228_27 : ev_H := (bn1872 : e2_Q8)
def al_b228_28 : List ev_V := [(2, 83, 0), (11, 0, 4294967295), (1, 2, 4294967296), (1, 3, 4294967296), (9, 0, 0)]
def E_b228_28 : e2_E := [(2147483648, 2147583648, 0, 0), (2147483656, 2147483656, 1, 0), (2147483648, 2147483667, 2, 0), (2147483648, 2147483657, 3, 0)]
noncomputable def h_b228_28 : ev_H := (bn1872 : e2_Q8)
def bn1873 : e2_Q7 := (bn1870, bn1392)
def bn1874 : e2_Q8 := (bn1373, bn1873)
noncomputable def h_b228_0 : ev_H := (bn1874 : e2_Q8)
def bn1875 : e2_Q7 := (bn1870, bn1410)
def bn1876 : e2_Q8 := (bn1373, bn1875)
noncomputable def h_b228_1 : ev_H := (bn1876 : e2_Q8)
def bn1877 : e2_Q7 := (bn1870, bn1418)
def bn1878 : e2_Q8 := (bn1373, bn1877)
noncomputable def h_b228_2 : ev_H := (bn1878 : e2_Q8)
def bn1879 : e2_Q7 := (bn1870, bn1426)
def bn1880 : e2_Q8 := (bn1373, bn1879)
noncomputable def h_b228_3 : ev_H := (bn1880 : e2_Q8)
def bn1881 : e2_Q7 := (bn1870, bn1434)
def bn1882 : e2_Q8 := (bn1373, bn1881)
noncomputable def h_b228_4 : ev_H := (bn1882 : e2_Q8)
def bn1883 : e2_Q7 := (bn1870, bn1442)
def bn1884 : e2_Q8 := (bn1373, bn1883)
noncomputable def h_b228_5 : ev_H := (bn1884 : e2_Q8)
def bn1885 : e2_Q7 := (bn1870, bn1450)
def bn1886 : e2_Q8 := (bn1373, bn1885)
noncomputable def h_b228_6 : ev_H := (bn1886 : e2_Q8)
def bn1887 : e2_Q7 := (bn1870, bn1458)
def bn1888 : e2_Q8 := (bn1373, bn1887)
noncomputable def h_b228_7 : ev_H := (bn1888 : e2_Q8)
def bn1889 : e2_Q7 := (bn1870, bn1466)
def bn1890 : e2_Q8 := (bn1373, bn1889)
noncomputable def h_b228_8 : ev_H := (bn1890 : e2_Q8)
def bn1891 : e2_Q7 := (bn1870, bn1474)
def bn1892 : e2_Q8 := (bn1373, bn1891)
noncomputable def h_b228_9 : ev_H := (bn1892 : e2_Q8)
def bn1893 : e2_Q7 := (bn1870, bn1482)
def bn1894 : e2_Q8 := (bn1373, bn1893)
noncomputable def h_b228_10 : ev_H := (bn1894 : e2_Q8)
def bn1895 : e2_Q7 := (bn1870, bn1490)
def bn1896 : e2_Q8 := (bn1373, bn1895)
noncomputable def h_b228_11 : ev_H := (bn1896 : e2_Q8)
def bn1897 : e2_Q7 := (bn1870, bn1498)
def bn1898 : e2_Q8 := (bn1373, bn1897)
noncomputable def h_b228_12 : ev_H := (bn1898 : e2_Q8)
def bn1899 : e2_Q7 := (bn1870, bn1506)
def bn1900 : e2_Q8 := (bn1373, bn1899)
noncomputable def h_b228_13 : ev_H := (bn1900 : e2_Q8)
def bn1901 : e2_Q7 := (bn1870, bn1514)
def bn1902 : e2_Q8 := (bn1373, bn1901)
noncomputable def h_b228_14 : ev_H := (bn1902 : e2_Q8)
def bn1903 : e2_Q7 := (bn1870, bn1522)
def bn1904 : e2_Q8 := (bn1373, bn1903)
noncomputable def h_b228_15 : ev_H := (bn1904 : e2_Q8)
def bn1905 : e2_Q7 := (bn1870, bn1530)
def bn1906 : e2_Q8 := (bn1373, bn1905)
noncomputable def h_b228_16 : ev_H := (bn1906 : e2_Q8)
def bn1907 : e2_Q7 := (bn1870, bn1538)
def bn1908 : e2_Q8 := (bn1373, bn1907)
noncomputable def h_b228_17 : ev_H := (bn1908 : e2_Q8)
def bn1909 : e2_Q7 := (bn1870, bn1546)
def bn1910 : e2_Q8 := (bn1373, bn1909)
noncomputable def h_b228_18 : ev_H := (bn1910 : e2_Q8)
def bn1911 : e2_Q7 := (bn1870, bn1554)
def bn1912 : e2_Q8 := (bn1373, bn1911)
noncomputable def h_b228_19 : ev_H := (bn1912 : e2_Q8)
noncomputable def h_b228_20 : ev_H := (bn1872 : e2_Q8)
def bn1913 : e2_Q7 := (bn1870, bn1562)
def bn1914 : e2_Q8 := (bn1373, bn1913)
noncomputable def h_b228_21 : ev_H := (bn1914 : e2_Q8)
noncomputable def h_b228_22 : ev_H := (bn1914 : e2_Q8)
noncomputable def h_b228_23 : ev_H := (bn1914 : e2_Q8)
noncomputable def h_b228_24 : ev_H := (bn1914 : e2_Q8)
noncomputable def h_b228_25 : ev_H := (bn1914 : e2_Q8)
noncomputable def cu_b228_120 : List e2_Cu := [([(2, 83, 0), (11, 0, 4294967295), (0, 0, 0), (0, 8, 0), (9, 0, 0)], [(2147483648, 2147583648, 0, 0), (2147483656, 2147483656, 1, 0)], h_b228_0),
  ([(2, 83, 0), (11, 0, 4294967295), (0, 1, 0), (11, 2147483648, 2147483656), (11, 2147483647, 2147483655)], [(2147483648, 2147583648, 0, 0), (2147483656, 2147483656, 1, 0)], h_b228_1),
  ([(2, 83, 0), (11, 0, 4294967295), (0, 2, 0), (11, 2147483648, 2147483656), (11, 2147483647, 2147483655)], [(2147483648, 2147583648, 0, 0), (2147483656, 2147483656, 1, 0)], h_b228_2),
  ([(2, 83, 0), (11, 0, 4294967295), (0, 3, 0), (11, 2147483648, 2147483656), (11, 2147483647, 2147483655)], [(2147483648, 2147583648, 0, 0), (2147483656, 2147483656, 1, 0)], h_b228_3),
  ([(2, 83, 0), (11, 0, 4294967295), (0, 4, 0), (11, 2147483648, 2147483656), (11, 2147483647, 2147483655)], [(2147483648, 2147583648, 0, 0), (2147483656, 2147483656, 1, 0)], h_b228_4),
  ([(2, 83, 0), (11, 0, 4294967295), (0, 5, 0), (11, 2147483648, 2147483656), (11, 2147483647, 2147483655)], [(2147483648, 2147583648, 0, 0), (2147483656, 2147483656, 1, 0)], h_b228_5),
  ([(2, 83, 0), (11, 0, 4294967295), (0, 6, 0), (11, 2147483648, 2147483656), (11, 2147483647, 2147483655)], [(2147483648, 2147583648, 0, 0), (2147483656, 2147483656, 1, 0)], h_b228_6),
  ([(2, 83, 0), (11, 0, 4294967295), (0, 7, 0), (11, 2147483648, 2147483656), (11, 2147483647, 2147483655)], [(2147483648, 2147583648, 0, 0), (2147483656, 2147483656, 1, 0)], h_b228_7),
  ([(2, 83, 0), (11, 0, 4294967295), (0, 8, 0), (11, 2147483648, 2147483656), (11, 2147483647, 2147483655)], [(2147483648, 2147583648, 0, 0), (2147483656, 2147483656, 1, 0)], h_b228_8),
  ([(2, 83, 0), (11, 0, 4294967295), (0, 9, 0), (11, 2147483648, 2147483656), (11, 2147483647, 2147483655)], [(2147483648, 2147583648, 0, 0), (2147483656, 2147483656, 1, 0)], h_b228_9),
  ([(2, 83, 0), (11, 0, 4294967295), (0, 10, 0), (11, 2147483648, 2147483656), (11, 2147483647, 2147483655)], [(2147483648, 2147583648, 0, 0), (2147483656, 2147483656, 1, 0)], h_b228_10),
  ([(2, 83, 0), (11, 0, 4294967295), (0, 11, 0), (11, 2147483648, 2147483656), (11, 2147483647, 2147483655)], [(2147483648, 2147583648, 0, 0), (2147483656, 2147483656, 1, 0)], h_b228_11),
  ([(2, 83, 0), (11, 0, 4294967295), (0, 12, 0), (11, 2147483648, 2147483656), (11, 2147483647, 2147483655)], [(2147483648, 2147583648, 0, 0), (2147483656, 2147483656, 1, 0)], h_b228_12),
  ([(2, 83, 0), (11, 0, 4294967295), (0, 13, 0), (11, 2147483648, 2147483656), (11, 2147483647, 2147483655)], [(2147483648, 2147583648, 0, 0), (2147483656, 2147483656, 1, 0)], h_b228_13),
  ([(2, 83, 0), (11, 0, 4294967295), (0, 14, 0), (11, 2147483648, 2147483656), (11, 2147483647, 2147483655)], [(2147483648, 2147583648, 0, 0), (2147483656, 2147483656, 1, 0)], h_b228_14),
  ([(2, 83, 0), (11, 0, 4294967295), (0, 15, 0), (11, 2147483648, 2147483656), (11, 2147483647, 2147483655)], [(2147483648, 2147583648, 0, 0), (2147483656, 2147483656, 1, 0)], h_b228_15),
  ([(2, 83, 0), (11, 0, 4294967295), (0, 16, 0), (11, 2147483648, 2147483656), (11, 2147483647, 2147483655)], [(2147483648, 2147583648, 0, 0), (2147483656, 2147483656, 1, 0)], h_b228_16),
  ([(2, 83, 0), (11, 0, 4294967295), (0, 17, 0), (11, 2147483648, 2147483656), (11, 2147483647, 2147483655)], [(2147483648, 2147583648, 0, 0), (2147483656, 2147483656, 1, 0)], h_b228_17),
  ([(2, 83, 0), (11, 0, 4294967295), (0, 18, 0), (11, 2147483648, 2147483656), (11, 2147483647, 2147483655)], [(2147483648, 2147583648, 0, 0), (2147483656, 2147483656, 1, 0)], h_b228_18),
  ([(2, 83, 0), (11, 0, 4294967295), (0, 19, 0), (11, 2147483648, 2147483656), (11, 2147483647, 2147483655)], [(2147483648, 2147583648, 0, 0), (2147483656, 2147483656, 1, 0)], h_b228_19),
  ([(2, 83, 0), (11, 0, 4294967295), (0, 20, 0), (11, 2147483648, 2147483656), (11, 2147483647, 2147483655)], [(2147483648, 2147583648, 0, 0), (2147483656, 2147483656, 1, 0)], h_b228_20),
  ([(2, 83, 0), (11, 0, 4294967295), (0, 21, 0), (11, 2147483648, 2147483655), (11, 2147483648, 2147483655)], [(2147483648, 2147583648, 0, 0), (2147483656, 2147483656, 1, 0)], h_b228_21),
  ([(2, 83, 0), (11, 0, 4294967295), (0, 22, 0), (11, 2147483648, 2147483655), (11, 2147483648, 2147483655)], [(2147483648, 2147583648, 0, 0), (2147483656, 2147483656, 1, 0)], h_b228_22),
  ([(2, 83, 0), (11, 0, 4294967295), (0, 23, 0), (11, 2147483648, 2147483655), (11, 2147483648, 2147483655)], [(2147483648, 2147583648, 0, 0), (2147483656, 2147483656, 1, 0)], h_b228_23),
  ([(2, 83, 0), (11, 0, 4294967295), (0, 24, 0), (11, 2147483648, 2147483655), (11, 2147483648, 2147483655)], [(2147483648, 2147583648, 0, 0), (2147483656, 2147483656, 1, 0)], h_b228_24),
  ([(2, 83, 0), (11, 0, 4294967295), (0, 25, 0), (11, 2147483648, 2147483655), (11, 2147483648, 2147483655)], [(2147483648, 2147583648, 0, 0), (2147483656, 2147483656, 1, 0)], h_b228_25)]
noncomputable def cl_b228_e : List (Nat × e2_S) := [(2, e2_cutL (al_b228_26.set 2 (11, 2147483648, 2147483657)) 2 (E_b228_26.take 2) h_b228_26)]
set_option maxRecDepth 1000000 in
theorem ck_b228_e : e2_run (e2_orG 231 83 11 2 2147483648 2147483668 as_b219 Eb_b219 f_b219 rs_b219 (e2_cal S_b228 I_b228 4000 1)) (e2_fin rs_b228) e2x_230 (e2_bpL cl_b228_e) (e2_cutA cl_b228_e) 4000 (e2_seek e2x_230 0) (e2_al 5 as_b228) [] E_b228 f_b228 = true := by decide +kernel
noncomputable def cl_b228_26 : List (Nat × e2_S) := [(2, e2_cutL (al_b228_26.set 2 (13, 10, 2147483657)) 2 (E_b228_26.take 2) h_b228_26),
  (49, e2_cutL (al_b228_27.set 2 (11, 2147483647, 2147483667)) 2 (E_b228_27.take 2) h_b228_27)]
set_option maxRecDepth 1000000 in
theorem ck_b228_26 : e2_runM (e2_orG 231 83 11 2 2147483648 2147483668 as_b219 Eb_b219 f_b219 rs_b219 (e2_cal S_b228 I_b228 4000 1)) (e2_fin rs_b228) e2x_230 (e2_bpL cl_b228_26) (e2_cutA cl_b228_26) 4000 (e2_seek e2x_230 2) al_b228_26 [] E_b228_26 h_b228_26 = true := by decide +kernel
set_option maxRecDepth 1000000 in
theorem ci_b228_26 : e2_idl 2 (al_b228_26.set 2 (9, 0, 0)) = true := by decide +kernel
set_option maxRecDepth 1000000 in
theorem cj_b228_26 : e2_idh 2 8 h_b228_26 = true := by decide +kernel
noncomputable def cl_b228_27 : List (Nat × e2_S) := [(120, e2_cutS cu_b228_120),
  (55, e2_cutL (al_b228_28.set 3 (11, 2147483648, 2147483657)) 3 (E_b228_28.take 3) h_b228_28)]
set_option maxRecDepth 1000000 in
theorem ck_b228_27 : e2_runM (e2_orG 231 83 11 2 2147483648 2147483668 as_b219 Eb_b219 f_b219 rs_b219 (e2_cal S_b228 I_b228 4000 1)) (e2_fin rs_b228) e2x_230 (e2_bpL cl_b228_27) (e2_cutA cl_b228_27) 4000 (e2_seek e2x_230 49) al_b228_27 [] E_b228_27 h_b228_27 = true := by decide +kernel
set_option maxRecDepth 1000000 in
theorem ci_b228_27 : e2_idl 2 (al_b228_27.set 2 (9, 0, 0)) = true := by decide +kernel
set_option maxRecDepth 1000000 in
theorem cj_b228_27 : e2_idh 2 8 h_b228_27 = true := by decide +kernel
noncomputable def cl_b228_28 : List (Nat × e2_S) := [(49, e2_cutL (al_b228_27.set 2 (12, 10, 2147483647)) 2 (E_b228_27.take 2) h_b228_27),
  (55, e2_cutL (al_b228_28.set 3 (13, 11, 2147483657)) 3 (E_b228_28.take 3) h_b228_28)]
set_option maxRecDepth 1000000 in
theorem ck_b228_28 : e2_runM (e2_orG 231 83 11 2 2147483648 2147483668 as_b219 Eb_b219 f_b219 rs_b219 (e2_cal S_b228 I_b228 4000 1)) (e2_fin rs_b228) e2x_230 (e2_bpL cl_b228_28) (e2_cutA cl_b228_28) 4000 (e2_seek e2x_230 55) al_b228_28 [] E_b228_28 h_b228_28 = true := by decide +kernel
set_option maxRecDepth 1000000 in
theorem ci_b228_28 : e2_idl 3 (al_b228_28.set 3 (9, 0, 0)) = true := by decide +kernel
set_option maxRecDepth 1000000 in
theorem cj_b228_28 : e2_idh 3 8 h_b228_28 = true := by decide +kernel
set_option maxRecDepth 1000000 in
theorem ck_b228_u120 : e2_cutsB (e2_orG 231 83 11 2 2147483648 2147483668 as_b219 Eb_b219 f_b219 rs_b219 (e2_cal S_b228 I_b228 4000 1)) (e2_fin rs_b228) e2x_230 120 4000 cu_b228_120 = true := by decide +kernel
theorem cs_b228 (hen : en_ok) (l : Launch) : e2_smOk l 5 s_b228 := by
  refine e2_conC (H := 4) (C := evd_230) ei_230 (fun d hd => (e2_orG_ok (e2_cal_ok hen (e2_fa (cs_b218 hen l) e2_fz) (e2_fa ein_216 (e2_fa ein_217 (e2_fa ein_227 e2_fz))) 1 d (by omega)) rfl (by decide) (fun M hM => (cs_b219 hen l).2 M hM d (by omega)) (e2_okGB_ok cog_b219))) (by decide) co_b228 fun M d _ hC hcall p e R s m args below meth c Q D cA A ads r0 ha hl0 => ?_
  have EN_120 := e2_cutS_ok (bp := 120) (cuts := cu_b228_120) (e2_cuts_len hl0 (by decide +kernel)) (e2_cuts_ok hen ha hcall (hC [192, 195]) (X := e2x_230) ex2_230 (e2_cuts_len hl0 (by decide +kernel)) ck_b228_u120)
  have L_27 : e2_gdM M p l e R s m args below meth c Q D cA A ads r0 49 al_b228_27 [] E_b228_27 h_b228_27 := by
    refine e2_indD (u := 2) (j := 2) (lo := 2147483647) (hi := 2147483667) hl0 (by decide) rfl rfl rfl ci_b228_27 cj_b228_27 ?_
    intro r_27 k_27 hk_27 hp_27 hs_27 hn_27
    have hl_27 : r_27.length ≤ 3 := hs_27.len rfl
    have ha_27 := ha.ext hp_27
    have L_28 : e2_gdM M p l e R s m args below meth c Q D cA A ads r_27 55 al_b228_28 [] E_b228_28 h_b228_28 := by
      refine e2_indL (u := 3) (j := 3) (lo := 2147483648) (hi := 2147483657) (b := 3) (dd := 0) hl_27 (by decide) rfl rfl (Or.inr ⟨rfl, rfl⟩) rfl ci_b228_28 cj_b228_28 ?_
      intro r_28 k_28 hk_28 hp_28 hs_28 hn_28
      have hl_28 : r_28.length ≤ 4 := hs_28.len rfl
      have ha_28 := ha_27.ext hp_28
      exact e2_fromM hen ha_28 hcall (e2_cutA_ok (e2_fa (fun al st E h hc => (hn_27 al st E h hc).ext hp_28) (e2_fa (fun al st E h hc => hn_28 al st E h hc) e2_fz))) (hC [192, 195]) (X := e2x_230) ex2_230 55 ck_b228_28
    have EN_28 := e2_entL (u := 3) (j := 3) (lo := 2147483648) (hi := 2147483657) hl_27 rfl rfl rfl ci_b228_28 cj_b228_28 L_28
    exact e2_fromM hen ha_27 hcall (e2_cutA_ok (e2_fa (fun al st E h hc => (EN_120 al st E h hc).ext hp_27) (e2_fa (fun al st E h hc => EN_28 al st E h hc) e2_fz))) (hC [192, 195]) (X := e2x_230) ex2_230 49 ck_b228_27
  have EN_27 := e2_entL (u := 2) (j := 2) (lo := 2147483647) (hi := 2147483667) hl0 rfl rfl rfl ci_b228_27 cj_b228_27 L_27
  have L_26 : e2_gdM M p l e R s m args below meth c Q D cA A ads r0 2 al_b228_26 [] E_b228_26 h_b228_26 := by
    refine e2_indL (u := 2) (j := 2) (lo := 2147483648) (hi := 2147483657) (b := 2) (dd := 0) hl0 (by decide) rfl rfl (Or.inr ⟨rfl, rfl⟩) rfl ci_b228_26 cj_b228_26 ?_
    intro r_26 k_26 hk_26 hp_26 hs_26 hn_26
    have hl_26 : r_26.length ≤ 3 := hs_26.len rfl
    have ha_26 := ha.ext hp_26
    exact e2_fromM hen ha_26 hcall (e2_cutA_ok (e2_fa (fun al st E h hc => hn_26 al st E h hc) (e2_fa (fun al st E h hc => (EN_27 al st E h hc).ext hp_26) e2_fz))) (hC [192, 195]) (X := e2x_230) ex2_230 2 ck_b228_26
  have EN_26 := e2_entL (u := 2) (j := 2) (lo := 2147483648) (hi := 2147483657) hl0 rfl rfl rfl ci_b228_26 cj_b228_26 L_26
  exact e2_from hen ha hcall (e2_cutA_ok (e2_fa (fun al st E h hc => EN_26 al st E h hc) e2_fz)) (hC [192, 195]) (X := e2x_230) ex2_230 0 ck_b228_e
/-! b229 X10_read, by the values of the second variable -/
def as_b229 : List ev_V := [(2, 83, 0), (11, 0, 4294967295)]
def E_b229 : e2_E := [(2147483648, 2147583648, 0, 0), (2147483648, 2147483656, 1, 0)]
def bn1915 : e2_Q6 := (bn1337, bn1383)
def bn1916 : e2_Q7 := (bn1915, bn1356)
def bn1917 : e2_Q8 := (bn1373, bn1916)
noncomputable def f_b229 : ev_H := (bn1917 : e2_Q8)
noncomputable def q_b229_0 : ev_H := (bn1917 : e2_Q8)
noncomputable def rs_b229 : e2_Rs := [((11, 2147483647, 2147483668), q_b229_0)]
noncomputable def s_b229 : e2_Sm := (230, as_b229, E_b229, f_b229, rs_b229)
set_option maxRecDepth 1000000 in
theorem co_b229 : e2_okSB E_b229.length as_b229 f_b229 rs_b229 = true := by decide +kernel
set_option maxRecDepth 1000000 in
theorem cp_b229_0 : e2_if (e2_lle (e2_vl9 (E_b229.set 1 (2147483648, 2147483648, 1, 0))) s_b220.2.1 as_b229) (e2_if (e2_pre s_b220.2.2.1.length s_b220.2.2.1 0 (E_b229.set 1 (2147483648, 2147483648, 1, 0))) (e2_if (e2_hlf (E_b229.set 1 (2147483648, 2147483648, 1, 0)) 8 s_b220.2.2.2.1 f_b229) (e2_allR s_b220.2.2.2.2 fun q => e2_fin rs_b229 q.1 (E_b229.set 1 (2147483648, 2147483648, 1, 0)) (e2_mrg 8 s_b220.2.2.2.1 q.2 f_b229)))) = true := by decide +kernel
set_option maxRecDepth 1000000 in
theorem cp_b229_1 : e2_if (e2_lle (e2_vl9 (E_b229.set 1 (2147483649, 2147483649, 1, 0))) s_b221.2.1 as_b229) (e2_if (e2_pre s_b221.2.2.1.length s_b221.2.2.1 0 (E_b229.set 1 (2147483649, 2147483649, 1, 0))) (e2_if (e2_hlf (E_b229.set 1 (2147483649, 2147483649, 1, 0)) 8 s_b221.2.2.2.1 f_b229) (e2_allR s_b221.2.2.2.2 fun q => e2_fin rs_b229 q.1 (E_b229.set 1 (2147483649, 2147483649, 1, 0)) (e2_mrg 8 s_b221.2.2.2.1 q.2 f_b229)))) = true := by decide +kernel
set_option maxRecDepth 1000000 in
theorem cp_b229_2 : e2_if (e2_lle (e2_vl9 (E_b229.set 1 (2147483650, 2147483650, 1, 0))) s_b222.2.1 as_b229) (e2_if (e2_pre s_b222.2.2.1.length s_b222.2.2.1 0 (E_b229.set 1 (2147483650, 2147483650, 1, 0))) (e2_if (e2_hlf (E_b229.set 1 (2147483650, 2147483650, 1, 0)) 8 s_b222.2.2.2.1 f_b229) (e2_allR s_b222.2.2.2.2 fun q => e2_fin rs_b229 q.1 (E_b229.set 1 (2147483650, 2147483650, 1, 0)) (e2_mrg 8 s_b222.2.2.2.1 q.2 f_b229)))) = true := by decide +kernel
set_option maxRecDepth 1000000 in
theorem cp_b229_3 : e2_if (e2_lle (e2_vl9 (E_b229.set 1 (2147483651, 2147483651, 1, 0))) s_b223.2.1 as_b229) (e2_if (e2_pre s_b223.2.2.1.length s_b223.2.2.1 0 (E_b229.set 1 (2147483651, 2147483651, 1, 0))) (e2_if (e2_hlf (E_b229.set 1 (2147483651, 2147483651, 1, 0)) 8 s_b223.2.2.2.1 f_b229) (e2_allR s_b223.2.2.2.2 fun q => e2_fin rs_b229 q.1 (E_b229.set 1 (2147483651, 2147483651, 1, 0)) (e2_mrg 8 s_b223.2.2.2.1 q.2 f_b229)))) = true := by decide +kernel
set_option maxRecDepth 1000000 in
theorem cp_b229_4 : e2_if (e2_lle (e2_vl9 (E_b229.set 1 (2147483652, 2147483652, 1, 0))) s_b224.2.1 as_b229) (e2_if (e2_pre s_b224.2.2.1.length s_b224.2.2.1 0 (E_b229.set 1 (2147483652, 2147483652, 1, 0))) (e2_if (e2_hlf (E_b229.set 1 (2147483652, 2147483652, 1, 0)) 8 s_b224.2.2.2.1 f_b229) (e2_allR s_b224.2.2.2.2 fun q => e2_fin rs_b229 q.1 (E_b229.set 1 (2147483652, 2147483652, 1, 0)) (e2_mrg 8 s_b224.2.2.2.1 q.2 f_b229)))) = true := by decide +kernel
set_option maxRecDepth 1000000 in
theorem cp_b229_5 : e2_if (e2_lle (e2_vl9 (E_b229.set 1 (2147483653, 2147483653, 1, 0))) s_b225.2.1 as_b229) (e2_if (e2_pre s_b225.2.2.1.length s_b225.2.2.1 0 (E_b229.set 1 (2147483653, 2147483653, 1, 0))) (e2_if (e2_hlf (E_b229.set 1 (2147483653, 2147483653, 1, 0)) 8 s_b225.2.2.2.1 f_b229) (e2_allR s_b225.2.2.2.2 fun q => e2_fin rs_b229 q.1 (E_b229.set 1 (2147483653, 2147483653, 1, 0)) (e2_mrg 8 s_b225.2.2.2.1 q.2 f_b229)))) = true := by decide +kernel
set_option maxRecDepth 1000000 in
theorem cp_b229_6 : e2_if (e2_lle (e2_vl9 (E_b229.set 1 (2147483654, 2147483654, 1, 0))) s_b226.2.1 as_b229) (e2_if (e2_pre s_b226.2.2.1.length s_b226.2.2.1 0 (E_b229.set 1 (2147483654, 2147483654, 1, 0))) (e2_if (e2_hlf (E_b229.set 1 (2147483654, 2147483654, 1, 0)) 8 s_b226.2.2.2.1 f_b229) (e2_allR s_b226.2.2.2.2 fun q => e2_fin rs_b229 q.1 (E_b229.set 1 (2147483654, 2147483654, 1, 0)) (e2_mrg 8 s_b226.2.2.2.1 q.2 f_b229)))) = true := by decide +kernel
set_option maxRecDepth 1000000 in
theorem cp_b229_7 : e2_if (e2_lle (e2_vl9 (E_b229.set 1 (2147483655, 2147483655, 1, 0))) s_b227.2.1 as_b229) (e2_if (e2_pre s_b227.2.2.1.length s_b227.2.2.1 0 (E_b229.set 1 (2147483655, 2147483655, 1, 0))) (e2_if (e2_hlf (E_b229.set 1 (2147483655, 2147483655, 1, 0)) 8 s_b227.2.2.2.1 f_b229) (e2_allR s_b227.2.2.2.2 fun q => e2_fin rs_b229 q.1 (E_b229.set 1 (2147483655, 2147483655, 1, 0)) (e2_mrg 8 s_b227.2.2.2.1 q.2 f_b229)))) = true := by decide +kernel
set_option maxRecDepth 1000000 in
theorem cp_b229_8 : e2_if (e2_lle (e2_vl9 (E_b229.set 1 (2147483656, 2147483656, 1, 0))) s_b228.2.1 as_b229) (e2_if (e2_pre s_b228.2.2.1.length s_b228.2.2.1 0 (E_b229.set 1 (2147483656, 2147483656, 1, 0))) (e2_if (e2_hlf (E_b229.set 1 (2147483656, 2147483656, 1, 0)) 8 s_b228.2.2.2.1 f_b229) (e2_allR s_b228.2.2.2.2 fun q => e2_fin rs_b229 q.1 (E_b229.set 1 (2147483656, 2147483656, 1, 0)) (e2_mrg 8 s_b228.2.2.2.1 q.2 f_b229)))) = true := by decide +kernel
theorem cs_b229 (hen : en_ok) (l : Launch) : e2_smOk l 5 s_b229 := by
  refine ⟨e2_okSB_ok co_b229, fun M hM d hd => e2_Met.split1 (E := E_b229) (lo := 2147483648) (hi := 2147483656) rfl fun s h1 h2 => ?_⟩
  have hs : s = 2147483648 ∨ s = 2147483649 ∨ s = 2147483650 ∨ s = 2147483651 ∨ s = 2147483652 ∨ s = 2147483653 ∨ s = 2147483654 ∨ s = 2147483655 ∨ s = 2147483656 := by omega
  rcases hs with rfl | rfl | rfl | rfl | rfl | rfl | rfl | rfl | rfl
  · exact e2_part1 (s := s_b220) (cs_b220 hen l) hM (Nat.le_trans (by decide) hd) cp_b229_0
  · exact e2_part1 (s := s_b221) (cs_b221 hen l) hM (Nat.le_trans (by decide) hd) cp_b229_1
  · exact e2_part1 (s := s_b222) (cs_b222 hen l) hM (Nat.le_trans (by decide) hd) cp_b229_2
  · exact e2_part1 (s := s_b223) (cs_b223 hen l) hM (Nat.le_trans (by decide) hd) cp_b229_3
  · exact e2_part1 (s := s_b224) (cs_b224 hen l) hM (Nat.le_trans (by decide) hd) cp_b229_4
  · exact e2_part1 (s := s_b225) (cs_b225 hen l) hM (Nat.le_trans (by decide) hd) cp_b229_5
  · exact e2_part1 (s := s_b226) (cs_b226 hen l) hM (Nat.le_trans (by decide) hd) cp_b229_6
  · exact e2_part1 (s := s_b227) (cs_b227 hen l) hM (Nat.le_trans (by decide) hd) cp_b229_7
  · exact e2_part1 (s := s_b228) (cs_b228 hen l) hM (Nat.le_trans (by decide) hd) cp_b229_8
