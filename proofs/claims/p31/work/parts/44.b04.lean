/-! CONTRACTS b, printed by a program -/
/-! b165 X10_readGlyph -/
def as_b165 : List ev_V := [(2, 83, 0)]
def E_b165 : e2_E := [(2147483648, 2147583648, 0, 0), (2147483648, 2147483656, 1, 0), (2147483648, 2147485249, 2, 0)]
noncomputable def f_b165 : ev_H := (bn1003 : e2_Q8)
def bn1049 : e2_Q8 := (bn1022, bn885)
noncomputable def q_b165_0 : ev_H := (bn1049 : e2_Q8)
def bn1050 : e2_Q8 := (bn1022, bn888)
noncomputable def q_b165_1 : ev_H := (bn1050 : e2_Q8)
def bn1051 : e2_Q8 := (bn1022, bn891)
noncomputable def q_b165_2 : ev_H := (bn1051 : e2_Q8)
def bn1052 : e2_Q8 := (bn1022, bn894)
noncomputable def q_b165_3 : ev_H := (bn1052 : e2_Q8)
def bn1053 : e2_Q8 := (bn1022, bn882)
noncomputable def q_b165_4 : ev_H := (bn1053 : e2_Q8)
noncomputable def rs_b165 : e2_Rs := [((9, 0, 0), q_b165_0), ((9, 0, 0), q_b165_1), ((9, 0, 0), q_b165_2), ((9, 0, 0), q_b165_3), ((9, 0, 0), q_b165_4)]
noncomputable def s_b165 : e2_Sm := (196, as_b165, E_b165, f_b165, rs_b165)
noncomputable def S_b165 : List e2_Sm := [s_b31, s_b80, s_b81, s_b93, s_b94, s_b95, s_b96, s_b97, s_b100, s_b103, s_b104, s_b105, s_b106, s_b131, s_b132, s_b133, s_b134, s_b158]
noncomputable def I_b165 : List e2_In := [(179, 3, e2x_179)]
set_option maxRecDepth 1000000 in
theorem ck_b165 : e2_run (e2_cal S_b165 I_b165 4000 1) (e2_fin rs_b165) e2x_196 (fun _ => false) (fun _ _ _ _ _ => false) 4000 (e2_seek e2x_196 0) (e2_al 2 as_b165) [] E_b165 f_b165 = true := by decide +kernel
set_option maxRecDepth 1000000 in
theorem co_b165 : e2_okSB E_b165.length as_b165 f_b165 rs_b165 = true := by decide +kernel
theorem cs_b165 (hen : en_ok) (l : Launch) (hh : e2_hand_b l) : e2_smOk l 62 s_b165 := e2_con0 (H := 60) (n := 1) (C := evd_196) (S := S_b165) (I := I_b165) (fuel := 4000) [] hen ei_196 (e2_fa (hh _ hm_b31) (e2_fa ((cs_b80 hen l).mono (by decide)) (e2_fa ((cs_b81 hen l).mono (by decide)) (e2_fa ((cs_b93 hen l).mono (by decide)) (e2_fa ((cs_b94 hen l).mono (by decide)) (e2_fa ((cs_b95 hen l).mono (by decide)) (e2_fa ((cs_b96 hen l).mono (by decide)) (e2_fa ((cs_b97 hen l).mono (by decide)) (e2_fa ((cs_b100 hen l).mono (by decide)) (e2_fa ((cs_b103 hen l).mono (by decide)) (e2_fa ((cs_b104 hen l).mono (by decide)) (e2_fa ((cs_b105 hen l).mono (by decide)) (e2_fa ((cs_b106 hen l).mono (by decide)) (e2_fa ((cs_b131 hen l).mono (by decide)) (e2_fa ((cs_b132 hen l).mono (by decide)) (e2_fa ((cs_b133 hen l).mono (by decide)) (e2_fa ((cs_b134 hen l).mono (by decide)) (e2_fa ((cs_b158 hen l).mono (by decide)) e2_fz)))))))))))))))))) (e2_fa ein_179 e2_fz) (by decide) co_b165 ex2_196 ck_b165
/-! b166 X10_readGlyph -/
def as_b166 : List ev_V := [(2, 83, 0)]
def E_b166 : e2_E := [(2147483648, 2147583648, 0, 0), (2147483648, 2147483656, 1, 0), (2147483648, 2147485249, 2, 0)]
def bn1054 : e2_Q8 := (bn972, bn898)
noncomputable def f_b166 : ev_H := (bn1054 : e2_Q8)
noncomputable def q_b166_0 : ev_H := (bn1049 : e2_Q8)
noncomputable def q_b166_1 : ev_H := (bn1050 : e2_Q8)
noncomputable def q_b166_2 : ev_H := (bn1051 : e2_Q8)
noncomputable def q_b166_3 : ev_H := (bn1052 : e2_Q8)
noncomputable def q_b166_4 : ev_H := (bn1053 : e2_Q8)
noncomputable def rs_b166 : e2_Rs := [((9, 0, 0), q_b166_0), ((9, 0, 0), q_b166_1), ((9, 0, 0), q_b166_2), ((9, 0, 0), q_b166_3), ((9, 0, 0), q_b166_4)]
noncomputable def s_b166 : e2_Sm := (196, as_b166, E_b166, f_b166, rs_b166)
noncomputable def S_b166 : List e2_Sm := [s_b32, s_b33, s_b34, s_b80, s_b81, s_b93, s_b94, s_b95, s_b96, s_b97, s_b103, s_b104, s_b105, s_b106, s_b116, s_b131, s_b132, s_b133, s_b134, s_b160]
noncomputable def I_b166 : List e2_In := [(179, 3, e2x_179)]
set_option maxRecDepth 1000000 in
theorem ck_b166 : e2_run (e2_cal S_b166 I_b166 4000 1) (e2_fin rs_b166) e2x_196 (fun _ => false) (fun _ _ _ _ _ => false) 4000 (e2_seek e2x_196 0) (e2_al 2 as_b166) [] E_b166 f_b166 = true := by decide +kernel
set_option maxRecDepth 1000000 in
theorem co_b166 : e2_okSB E_b166.length as_b166 f_b166 rs_b166 = true := by decide +kernel
theorem cs_b166 (hen : en_ok) (l : Launch) (hh : e2_hand_b l) : e2_smOk l 62 s_b166 := e2_con0 (H := 60) (n := 1) (C := evd_196) (S := S_b166) (I := I_b166) (fuel := 4000) [] hen ei_196 (e2_fa (hh _ hm_b32) (e2_fa (hh _ hm_b33) (e2_fa (hh _ hm_b34) (e2_fa ((cs_b80 hen l).mono (by decide)) (e2_fa ((cs_b81 hen l).mono (by decide)) (e2_fa ((cs_b93 hen l).mono (by decide)) (e2_fa ((cs_b94 hen l).mono (by decide)) (e2_fa ((cs_b95 hen l).mono (by decide)) (e2_fa ((cs_b96 hen l).mono (by decide)) (e2_fa ((cs_b97 hen l).mono (by decide)) (e2_fa ((cs_b103 hen l).mono (by decide)) (e2_fa ((cs_b104 hen l).mono (by decide)) (e2_fa ((cs_b105 hen l).mono (by decide)) (e2_fa ((cs_b106 hen l).mono (by decide)) (e2_fa ((cs_b116 hen l).mono (by decide)) (e2_fa ((cs_b131 hen l).mono (by decide)) (e2_fa ((cs_b132 hen l).mono (by decide)) (e2_fa ((cs_b133 hen l).mono (by decide)) (e2_fa ((cs_b134 hen l).mono (by decide)) (e2_fa ((cs_b160 hen l).mono (by decide)) e2_fz)))))))))))))))))))) (e2_fa ein_179 e2_fz) (by decide) co_b166 ex2_196 ck_b166
/-! b167 X10_readLine -/
def as_b167 : List ev_V := [(2, 83, 0)]
def E_b167 : e2_E := [(2147483648, 2147583648, 0, 0), (2147483648, 2147483656, 1, 0), (2147483648, 2147485249, 2, 0)]
def bn1055 : e2_Q8 := (bn1006, bn901)
noncomputable def f_b167 : ev_H := (bn1055 : e2_Q8)
noncomputable def q_b167_0 : ev_H := (bn1008 : e2_Q8)
noncomputable def q_b167_1 : ev_H := (bn1007 : e2_Q8)
noncomputable def q_b167_2 : ev_H := (bn1009 : e2_Q8)
noncomputable def q_b167_3 : ev_H := (bn1010 : e2_Q8)
noncomputable def q_b167_4 : ev_H := (bn1011 : e2_Q8)
def bn1056 : e2_Q7 := (bn1042, bn828)
def bn1057 : e2_Q8 := (bn1056, bn837)
noncomputable def q_b167_5 : ev_H := (bn1057 : e2_Q8)
def bn1058 : e2_Q8 := (bn1056, bn833)
noncomputable def q_b167_6 : ev_H := (bn1058 : e2_Q8)
def bn1059 : e2_Q8 := (bn1056, bn841)
noncomputable def q_b167_7 : ev_H := (bn1059 : e2_Q8)
def bn1060 : e2_Q8 := (bn1056, bn845)
noncomputable def q_b167_8 : ev_H := (bn1060 : e2_Q8)
def bn1061 : e2_Q8 := (bn1056, bn904)
noncomputable def q_b167_9 : ev_H := (bn1061 : e2_Q8)
noncomputable def rs_b167 : e2_Rs := [((9, 0, 0), q_b167_0), ((9, 0, 0), q_b167_1), ((9, 0, 0), q_b167_2), ((9, 0, 0), q_b167_3), ((9, 0, 0), q_b167_4), ((9, 0, 0), q_b167_5), ((9, 0, 0), q_b167_6), ((9, 0, 0), q_b167_7), ((9, 0, 0), q_b167_8), ((9, 0, 0), q_b167_9)]
noncomputable def s_b167 : e2_Sm := (187, as_b167, E_b167, f_b167, rs_b167)
noncomputable def S_b167 : List e2_Sm := [s_b74, s_b76, s_b77, s_b78, s_b79, s_b80, s_b81, s_b82, s_b83, s_b84, s_b85, s_b86, s_b98, s_b99, s_b124, s_b125, s_b126, s_b129, s_b162, s_b163, s_b165, s_b166]
noncomputable def I_b167 : List e2_In := [(170, 2, e2x_170), (173, 3, e2x_173), (174, 1, e2x_174), (178, 2, e2x_178), (179, 3, e2x_179), (180, 1, e2x_180), (186, 1, e2x_186)]
set_option maxRecDepth 1000000 in
theorem ck_b167 : e2_run (e2_cal S_b167 I_b167 4000 2) (e2_fin rs_b167) e2x_187 (fun _ => false) (fun _ _ _ _ _ => false) 4000 (e2_seek e2x_187 0) (e2_al 3 as_b167) [] E_b167 f_b167 = true := by decide +kernel
set_option maxRecDepth 1000000 in
theorem co_b167 : e2_okSB E_b167.length as_b167 f_b167 rs_b167 = true := by decide +kernel
theorem cs_b167 (hen : en_ok) (l : Launch) (hh : e2_hand_b l) : e2_smOk l 65 s_b167 := e2_con0 (H := 62) (n := 2) (C := evd_187) (S := S_b167) (I := I_b167) (fuel := 4000) [] hen ei_187 (e2_fa ((cs_b74 hen l).mono (by decide)) (e2_fa ((cs_b76 hen l).mono (by decide)) (e2_fa ((cs_b77 hen l).mono (by decide)) (e2_fa ((cs_b78 hen l).mono (by decide)) (e2_fa ((cs_b79 hen l).mono (by decide)) (e2_fa ((cs_b80 hen l).mono (by decide)) (e2_fa ((cs_b81 hen l).mono (by decide)) (e2_fa ((cs_b82 hen l).mono (by decide)) (e2_fa ((cs_b83 hen l).mono (by decide)) (e2_fa ((cs_b84 hen l).mono (by decide)) (e2_fa ((cs_b85 hen l).mono (by decide)) (e2_fa ((cs_b86 hen l).mono (by decide)) (e2_fa ((cs_b98 hen l).mono (by decide)) (e2_fa ((cs_b99 hen l).mono (by decide)) (e2_fa ((cs_b124 hen l hh).mono (by decide)) (e2_fa ((cs_b125 hen l hh).mono (by decide)) (e2_fa ((cs_b126 hen l).mono (by decide)) (e2_fa ((cs_b129 hen l).mono (by decide)) (e2_fa ((cs_b162 hen l).mono (by decide)) (e2_fa ((cs_b163 hen l).mono (by decide)) (e2_fa (cs_b165 hen l hh) (e2_fa (cs_b166 hen l hh) e2_fz)))))))))))))))))))))) (e2_fa ein_170 (e2_fa ein_173 (e2_fa ein_174 (e2_fa ein_178 (e2_fa ein_179 (e2_fa ein_180 (e2_fa ein_186 e2_fz))))))) (by decide) co_b167 ex2_187 ck_b167
/-! b168 X10_glyphHere -/
def as_b168 : List ev_V := [(2, 83, 0)]
def E_b168 : e2_E := [(2147483648, 2147583648, 0, 0), (2147483648, 2147483656, 1, 0), (2147483648, 2147485249, 2, 0)]
def bn1062 : e2_Q5 := (bn14, bn1019)
def bn1063 : e2_Q6 := (bn1062, bn334)
def bn1064 : e2_Q7 := (bn1063, bn273)
def bn1065 : e2_Q8 := (bn1064, bn573)
noncomputable def f_b168 : ev_H := (bn1065 : e2_Q8)
noncomputable def q_b168_0 : ev_H := (bn1065 : e2_Q8)
noncomputable def rs_b168 : e2_Rs := [((0, 4294967295, 0), q_b168_0)]
noncomputable def s_b168 : e2_Sm := (190, as_b168, E_b168, f_b168, rs_b168)
noncomputable def S_b168 : List e2_Sm := [s_b101]
noncomputable def I_b168 : List e2_In := []
set_option maxRecDepth 1000000 in
theorem ck_b168 : e2_run (e2_cal S_b168 I_b168 4000 0) (e2_fin rs_b168) e2x_190 (fun _ => false) (fun _ _ _ _ _ => false) 4000 (e2_seek e2x_190 0) (e2_al 1 as_b168) [] E_b168 f_b168 = true := by decide +kernel
set_option maxRecDepth 1000000 in
theorem co_b168 : e2_okSB E_b168.length as_b168 f_b168 rs_b168 = true := by decide +kernel
theorem cs_b168 (hen : en_ok) (l : Launch) : e2_smOk l 2 s_b168 := e2_con0 (H := 1) (n := 0) (C := evd_190) (S := S_b168) (I := I_b168) (fuel := 4000) [] hen ei_190 (e2_fa (cs_b101 hen l) e2_fz) e2_fz (by decide) co_b168 ex2_190 ck_b168
/-! b169 X10_readGlyph -/
def as_b169 : List ev_V := [(2, 83, 0)]
def E_b169 : e2_E := [(2147483648, 2147583648, 0, 0), (2147483648, 2147483656, 1, 0), (2147483648, 2147485249, 2, 0)]
noncomputable def f_b169 : ev_H := (bn1027 : e2_Q8)
def bc188 : ev_C := (50, [(1, 1, 4294967296), (0, 5, 0)])
def bn1066 : e2_Q1 := (bc188, bc3)
def bn1067 : e2_Q2 := (bn22, bn1066)
def bn1068 : e2_Q3 := (bn1067, bn27)
def bn1069 : e2_Q4 := (bn21, bn1068)
def bn1070 : e2_Q5 := (bn257, bn1069)
def bn1071 : e2_Q6 := (bn1070, bn266)
def bn1072 : e2_Q7 := (bn1071, bn687)
def bn1073 : e2_Q8 := (bn1072, bn708)
noncomputable def q_b169_0 : ev_H := (bn1073 : e2_Q8)
def bn1074 : e2_Q8 := (bn1072, bn713)
noncomputable def q_b169_1 : ev_H := (bn1074 : e2_Q8)
def bn1075 : e2_Q8 := (bn1072, bn718)
noncomputable def q_b169_2 : ev_H := (bn1075 : e2_Q8)
def bn1076 : e2_Q8 := (bn1072, bn723)
noncomputable def q_b169_3 : ev_H := (bn1076 : e2_Q8)
def bn1077 : e2_Q8 := (bn1072, bn696)
noncomputable def q_b169_4 : ev_H := (bn1077 : e2_Q8)
noncomputable def rs_b169 : e2_Rs := [((9, 0, 0), q_b169_0), ((9, 0, 0), q_b169_1), ((9, 0, 0), q_b169_2), ((9, 0, 0), q_b169_3), ((9, 0, 0), q_b169_4)]
noncomputable def s_b169 : e2_Sm := (196, as_b169, E_b169, f_b169, rs_b169)
noncomputable def S_b169 : List e2_Sm := [s_b35, s_b80, s_b81, s_b93, s_b94, s_b95, s_b96, s_b97, s_b100, s_b103, s_b104, s_b105, s_b106, s_b108, s_b110, s_b112, s_b114, s_b168]
noncomputable def I_b169 : List e2_In := [(179, 3, e2x_179)]
set_option maxRecDepth 1000000 in
theorem ck_b169 : e2_run (e2_cal S_b169 I_b169 4000 1) (e2_fin rs_b169) e2x_196 (fun _ => false) (fun _ _ _ _ _ => false) 4000 (e2_seek e2x_196 0) (e2_al 2 as_b169) [] E_b169 f_b169 = true := by decide +kernel
set_option maxRecDepth 1000000 in
theorem co_b169 : e2_okSB E_b169.length as_b169 f_b169 rs_b169 = true := by decide +kernel
theorem cs_b169 (hen : en_ok) (l : Launch) (hh : e2_hand_b l) : e2_smOk l 62 s_b169 := e2_con0 (H := 60) (n := 1) (C := evd_196) (S := S_b169) (I := I_b169) (fuel := 4000) [] hen ei_196 (e2_fa (hh _ hm_b35) (e2_fa ((cs_b80 hen l).mono (by decide)) (e2_fa ((cs_b81 hen l).mono (by decide)) (e2_fa ((cs_b93 hen l).mono (by decide)) (e2_fa ((cs_b94 hen l).mono (by decide)) (e2_fa ((cs_b95 hen l).mono (by decide)) (e2_fa ((cs_b96 hen l).mono (by decide)) (e2_fa ((cs_b97 hen l).mono (by decide)) (e2_fa ((cs_b100 hen l).mono (by decide)) (e2_fa ((cs_b103 hen l).mono (by decide)) (e2_fa ((cs_b104 hen l).mono (by decide)) (e2_fa ((cs_b105 hen l).mono (by decide)) (e2_fa ((cs_b106 hen l).mono (by decide)) (e2_fa ((cs_b108 hen l).mono (by decide)) (e2_fa ((cs_b110 hen l).mono (by decide)) (e2_fa ((cs_b112 hen l).mono (by decide)) (e2_fa ((cs_b114 hen l).mono (by decide)) (e2_fa ((cs_b168 hen l).mono (by decide)) e2_fz)))))))))))))))))) (e2_fa ein_179 e2_fz) (by decide) co_b169 ex2_196 ck_b169
/-! b170 X10_glyphHere -/
def as_b170 : List ev_V := [(2, 83, 0)]
def E_b170 : e2_E := [(2147483648, 2147583648, 0, 0), (2147483648, 2147483656, 1, 0), (2147483648, 2147485249, 2, 0)]
def bn1078 : e2_Q7 := (bn1063, bn727)
def bn1079 : e2_Q8 := (bn1078, bn729)
noncomputable def f_b170 : ev_H := (bn1079 : e2_Q8)
noncomputable def q_b170_0 : ev_H := (bn1079 : e2_Q8)
noncomputable def rs_b170 : e2_Rs := [((11, 2147483647, 2147483655), q_b170_0)]
noncomputable def s_b170 : e2_Sm := (190, as_b170, E_b170, f_b170, rs_b170)
noncomputable def S_b170 : List e2_Sm := [s_b117]
noncomputable def I_b170 : List e2_In := []
set_option maxRecDepth 1000000 in
theorem ck_b170 : e2_run (e2_cal S_b170 I_b170 4000 0) (e2_fin rs_b170) e2x_190 (fun _ => false) (fun _ _ _ _ _ => false) 4000 (e2_seek e2x_190 0) (e2_al 1 as_b170) [] E_b170 f_b170 = true := by decide +kernel
set_option maxRecDepth 1000000 in
theorem co_b170 : e2_okSB E_b170.length as_b170 f_b170 rs_b170 = true := by decide +kernel
theorem cs_b170 (hen : en_ok) (l : Launch) : e2_smOk l 2 s_b170 := e2_con0 (H := 1) (n := 0) (C := evd_190) (S := S_b170) (I := I_b170) (fuel := 4000) [] hen ei_190 (e2_fa (cs_b117 hen l) e2_fz) e2_fz (by decide) co_b170 ex2_190 ck_b170
/-! b171 X10_readGlyph -/
def as_b171 : List ev_V := [(2, 83, 0)]
def E_b171 : e2_E := [(2147483648, 2147583648, 0, 0), (2147483648, 2147483656, 1, 0), (2147483648, 2147485249, 2, 0)]
def bn1080 : e2_Q8 := (bn1022, bn736)
noncomputable def f_b171 : ev_H := (bn1080 : e2_Q8)
noncomputable def q_b171_0 : ev_H := (bn1073 : e2_Q8)
noncomputable def q_b171_1 : ev_H := (bn1074 : e2_Q8)
noncomputable def q_b171_2 : ev_H := (bn1075 : e2_Q8)
noncomputable def q_b171_3 : ev_H := (bn1076 : e2_Q8)
noncomputable def q_b171_4 : ev_H := (bn1077 : e2_Q8)
noncomputable def rs_b171 : e2_Rs := [((9, 0, 0), q_b171_0), ((9, 0, 0), q_b171_1), ((9, 0, 0), q_b171_2), ((9, 0, 0), q_b171_3), ((9, 0, 0), q_b171_4)]
noncomputable def s_b171 : e2_Sm := (196, as_b171, E_b171, f_b171, rs_b171)
noncomputable def S_b171 : List e2_Sm := [s_b36, s_b37, s_b38, s_b80, s_b81, s_b93, s_b94, s_b95, s_b96, s_b97, s_b103, s_b104, s_b105, s_b106, s_b108, s_b110, s_b112, s_b114, s_b116, s_b170]
noncomputable def I_b171 : List e2_In := [(179, 3, e2x_179)]
set_option maxRecDepth 1000000 in
theorem ck_b171 : e2_run (e2_cal S_b171 I_b171 4000 1) (e2_fin rs_b171) e2x_196 (fun _ => false) (fun _ _ _ _ _ => false) 4000 (e2_seek e2x_196 0) (e2_al 2 as_b171) [] E_b171 f_b171 = true := by decide +kernel
set_option maxRecDepth 1000000 in
theorem co_b171 : e2_okSB E_b171.length as_b171 f_b171 rs_b171 = true := by decide +kernel
theorem cs_b171 (hen : en_ok) (l : Launch) (hh : e2_hand_b l) : e2_smOk l 62 s_b171 := e2_con0 (H := 60) (n := 1) (C := evd_196) (S := S_b171) (I := I_b171) (fuel := 4000) [] hen ei_196 (e2_fa (hh _ hm_b36) (e2_fa (hh _ hm_b37) (e2_fa (hh _ hm_b38) (e2_fa ((cs_b80 hen l).mono (by decide)) (e2_fa ((cs_b81 hen l).mono (by decide)) (e2_fa ((cs_b93 hen l).mono (by decide)) (e2_fa ((cs_b94 hen l).mono (by decide)) (e2_fa ((cs_b95 hen l).mono (by decide)) (e2_fa ((cs_b96 hen l).mono (by decide)) (e2_fa ((cs_b97 hen l).mono (by decide)) (e2_fa ((cs_b103 hen l).mono (by decide)) (e2_fa ((cs_b104 hen l).mono (by decide)) (e2_fa ((cs_b105 hen l).mono (by decide)) (e2_fa ((cs_b106 hen l).mono (by decide)) (e2_fa ((cs_b108 hen l).mono (by decide)) (e2_fa ((cs_b110 hen l).mono (by decide)) (e2_fa ((cs_b112 hen l).mono (by decide)) (e2_fa ((cs_b114 hen l).mono (by decide)) (e2_fa ((cs_b116 hen l).mono (by decide)) (e2_fa ((cs_b170 hen l).mono (by decide)) e2_fz)))))))))))))))))))) (e2_fa ein_179 e2_fz) (by decide) co_b171 ex2_196 ck_b171
/-! b172 X10_readNever -/
def as_b172 : List ev_V := [(2, 83, 0)]
def E_b172 : e2_E := [(2147483648, 2147583648, 0, 0), (2147483648, 2147483656, 1, 0), (2147483648, 2147485249, 2, 0)]
noncomputable def f_b172 : ev_H := (bn1065 : e2_Q8)
def bn1081 : e2_Q8 := (bn1064, bn555)
noncomputable def q_b172_0 : ev_H := (bn1081 : e2_Q8)
noncomputable def rs_b172 : e2_Rs := [((9, 0, 0), q_b172_0)]
noncomputable def s_b172 : e2_Sm := (197, as_b172, E_b172, f_b172, rs_b172)
noncomputable def S_b172 : List e2_Sm := [s_b103, s_b168]
noncomputable def I_b172 : List e2_In := [(174, 1, e2x_174)]
set_option maxRecDepth 1000000 in
theorem ck_b172 : e2_run (e2_cal S_b172 I_b172 4000 1) (e2_fin rs_b172) e2x_197 (fun _ => false) (fun _ _ _ _ _ => false) 4000 (e2_seek e2x_197 0) (e2_al 3 as_b172) [] E_b172 f_b172 = true := by decide +kernel
set_option maxRecDepth 1000000 in
theorem co_b172 : e2_okSB E_b172.length as_b172 f_b172 rs_b172 = true := by decide +kernel
theorem cs_b172 (hen : en_ok) (l : Launch) : e2_smOk l 5 s_b172 := e2_con0 (H := 3) (n := 1) (C := evd_197) (S := S_b172) (I := I_b172) (fuel := 4000) [] hen ei_197 (e2_fa (cs_b103 hen l) (e2_fa ((cs_b168 hen l).mono (by decide)) e2_fz)) (e2_fa ein_174 e2_fz) (by decide) co_b172 ex2_197 ck_b172
/-! b173 X10_readNever -/
def as_b173 : List ev_V := [(2, 83, 0)]
def E_b173 : e2_E := [(2147483648, 2147583648, 0, 0), (2147483648, 2147483656, 1, 0), (2147483648, 2147485249, 2, 0)]
def bn1082 : e2_Q6 := (bn1062, bn739)
def bn1083 : e2_Q7 := (bn1082, bn727)
def bn1084 : e2_Q8 := (bn1083, bn743)
noncomputable def f_b173 : ev_H := (bn1084 : e2_Q8)
def bn1085 : e2_Q8 := (bn1083, bn745)
noncomputable def q_b173_0 : ev_H := (bn1085 : e2_Q8)
def bn1086 : e2_Q8 := (bn1083, bn747)
noncomputable def q_b173_1 : ev_H := (bn1086 : e2_Q8)
def bn1087 : e2_Q8 := (bn1083, bn749)
noncomputable def q_b173_2 : ev_H := (bn1087 : e2_Q8)
def bn1088 : e2_Q8 := (bn1083, bn751)
noncomputable def q_b173_3 : ev_H := (bn1088 : e2_Q8)
noncomputable def rs_b173 : e2_Rs := [((9, 0, 0), q_b173_0), ((9, 0, 0), q_b173_1), ((9, 0, 0), q_b173_2), ((9, 0, 0), q_b173_3)]
noncomputable def s_b173 : e2_Sm := (197, as_b173, E_b173, f_b173, rs_b173)
noncomputable def S_b173 : List e2_Sm := [s_b103, s_b121, s_b122, s_b168, s_b170]
noncomputable def I_b173 : List e2_In := [(173, 3, e2x_173), (174, 1, e2x_174)]
set_option maxRecDepth 1000000 in
theorem ck_b173 : e2_run (e2_cal S_b173 I_b173 4000 1) (e2_fin rs_b173) e2x_197 (fun _ => false) (fun _ _ _ _ _ => false) 4000 (e2_seek e2x_197 0) (e2_al 3 as_b173) [] E_b173 f_b173 = true := by decide +kernel
set_option maxRecDepth 1000000 in
theorem co_b173 : e2_okSB E_b173.length as_b173 f_b173 rs_b173 = true := by decide +kernel
theorem cs_b173 (hen : en_ok) (l : Launch) : e2_smOk l 8 s_b173 := e2_con0 (H := 6) (n := 1) (C := evd_197) (S := S_b173) (I := I_b173) (fuel := 4000) [] hen ei_197 (e2_fa ((cs_b103 hen l).mono (by decide)) (e2_fa (cs_b121 hen l) (e2_fa ((cs_b122 hen l).mono (by decide)) (e2_fa ((cs_b168 hen l).mono (by decide)) (e2_fa ((cs_b170 hen l).mono (by decide)) e2_fz))))) (e2_fa ein_173 (e2_fa ein_174 e2_fz)) (by decide) co_b173 ex2_197 ck_b173
/-! b174 X10_readLine -/
def as_b174 : List ev_V := [(2, 83, 0)]
def E_b174 : e2_E := [(2147483648, 2147583648, 0, 0), (2147483648, 2147483656, 1, 0), (2147483648, 2147485249, 2, 0)]
def bn1089 : e2_Q8 := (bn1043, bn824)
noncomputable def f_b174 : ev_H := (bn1089 : e2_Q8)
noncomputable def q_b174_0 : ev_H := (bn1058 : e2_Q8)
noncomputable def q_b174_1 : ev_H := (bn1057 : e2_Q8)
noncomputable def q_b174_2 : ev_H := (bn1059 : e2_Q8)
noncomputable def q_b174_3 : ev_H := (bn1060 : e2_Q8)
noncomputable def q_b174_4 : ev_H := (bn1048 : e2_Q8)
def bn1090 : e2_Q4 := (bn350, bn1068)
def bn1091 : e2_Q5 := (bn257, bn1090)
def bn1092 : e2_Q6 := (bn1091, bn805)
def bn1093 : e2_Q7 := (bn1092, bn812)
def bn1094 : e2_Q8 := (bn1093, bn856)
noncomputable def q_b174_5 : ev_H := (bn1094 : e2_Q8)
def bn1095 : e2_Q8 := (bn1093, bn859)
noncomputable def q_b174_6 : ev_H := (bn1095 : e2_Q8)
def bn1096 : e2_Q8 := (bn1093, bn862)
noncomputable def q_b174_7 : ev_H := (bn1096 : e2_Q8)
def bn1097 : e2_Q8 := (bn1093, bn865)
noncomputable def q_b174_8 : ev_H := (bn1097 : e2_Q8)
def bn1098 : e2_Q8 := (bn1093, bn849)
noncomputable def q_b174_9 : ev_H := (bn1098 : e2_Q8)
noncomputable def rs_b174 : e2_Rs := [((9, 0, 0), q_b174_0), ((9, 0, 0), q_b174_1), ((9, 0, 0), q_b174_2), ((9, 0, 0), q_b174_3), ((9, 0, 0), q_b174_4), ((9, 0, 0), q_b174_5), ((9, 0, 0), q_b174_6), ((9, 0, 0), q_b174_7), ((9, 0, 0), q_b174_8), ((9, 0, 0), q_b174_9)]
noncomputable def s_b174 : e2_Sm := (187, as_b174, E_b174, f_b174, rs_b174)
noncomputable def S_b174 : List e2_Sm := [s_b74, s_b76, s_b77, s_b78, s_b79, s_b80, s_b81, s_b82, s_b83, s_b84, s_b85, s_b86, s_b98, s_b99, s_b124, s_b125, s_b126, s_b129, s_b169, s_b171, s_b172, s_b173]
noncomputable def I_b174 : List e2_In := [(170, 2, e2x_170), (173, 3, e2x_173), (174, 1, e2x_174), (178, 2, e2x_178), (179, 3, e2x_179), (180, 1, e2x_180), (186, 1, e2x_186)]
set_option maxRecDepth 1000000 in
theorem ck_b174 : e2_run (e2_cal S_b174 I_b174 4000 2) (e2_fin rs_b174) e2x_187 (fun _ => false) (fun _ _ _ _ _ => false) 4000 (e2_seek e2x_187 0) (e2_al 3 as_b174) [] E_b174 f_b174 = true := by decide +kernel
set_option maxRecDepth 1000000 in
theorem co_b174 : e2_okSB E_b174.length as_b174 f_b174 rs_b174 = true := by decide +kernel
theorem cs_b174 (hen : en_ok) (l : Launch) (hh : e2_hand_b l) : e2_smOk l 65 s_b174 := e2_con0 (H := 62) (n := 2) (C := evd_187) (S := S_b174) (I := I_b174) (fuel := 4000) [] hen ei_187 (e2_fa ((cs_b74 hen l).mono (by decide)) (e2_fa ((cs_b76 hen l).mono (by decide)) (e2_fa ((cs_b77 hen l).mono (by decide)) (e2_fa ((cs_b78 hen l).mono (by decide)) (e2_fa ((cs_b79 hen l).mono (by decide)) (e2_fa ((cs_b80 hen l).mono (by decide)) (e2_fa ((cs_b81 hen l).mono (by decide)) (e2_fa ((cs_b82 hen l).mono (by decide)) (e2_fa ((cs_b83 hen l).mono (by decide)) (e2_fa ((cs_b84 hen l).mono (by decide)) (e2_fa ((cs_b85 hen l).mono (by decide)) (e2_fa ((cs_b86 hen l).mono (by decide)) (e2_fa ((cs_b98 hen l).mono (by decide)) (e2_fa ((cs_b99 hen l).mono (by decide)) (e2_fa ((cs_b124 hen l hh).mono (by decide)) (e2_fa ((cs_b125 hen l hh).mono (by decide)) (e2_fa ((cs_b126 hen l).mono (by decide)) (e2_fa ((cs_b129 hen l).mono (by decide)) (e2_fa (cs_b169 hen l hh) (e2_fa (cs_b171 hen l hh) (e2_fa ((cs_b172 hen l).mono (by decide)) (e2_fa ((cs_b173 hen l).mono (by decide)) e2_fz)))))))))))))))))))))) (e2_fa ein_170 (e2_fa ein_173 (e2_fa ein_174 (e2_fa ein_178 (e2_fa ein_179 (e2_fa ein_180 (e2_fa ein_186 e2_fz))))))) (by decide) co_b174 ex2_187 ck_b174
/-! b175 X10_readGlyph -/
def as_b175 : List ev_V := [(2, 83, 0)]
def E_b175 : e2_E := [(2147483648, 2147583648, 0, 0), (2147483648, 2147483656, 1, 0), (2147483648, 2147485249, 2, 0)]
noncomputable def f_b175 : ev_H := (bn1053 : e2_Q8)
def bn1099 : e2_Q8 := (bn1072, bn885)
noncomputable def q_b175_0 : ev_H := (bn1099 : e2_Q8)
def bn1100 : e2_Q8 := (bn1072, bn888)
noncomputable def q_b175_1 : ev_H := (bn1100 : e2_Q8)
def bn1101 : e2_Q8 := (bn1072, bn891)
noncomputable def q_b175_2 : ev_H := (bn1101 : e2_Q8)
def bn1102 : e2_Q8 := (bn1072, bn894)
noncomputable def q_b175_3 : ev_H := (bn1102 : e2_Q8)
def bn1103 : e2_Q8 := (bn1072, bn882)
noncomputable def q_b175_4 : ev_H := (bn1103 : e2_Q8)
noncomputable def rs_b175 : e2_Rs := [((9, 0, 0), q_b175_0), ((9, 0, 0), q_b175_1), ((9, 0, 0), q_b175_2), ((9, 0, 0), q_b175_3), ((9, 0, 0), q_b175_4)]
noncomputable def s_b175 : e2_Sm := (196, as_b175, E_b175, f_b175, rs_b175)
noncomputable def S_b175 : List e2_Sm := [s_b39, s_b80, s_b81, s_b93, s_b94, s_b95, s_b96, s_b97, s_b100, s_b103, s_b104, s_b105, s_b106, s_b131, s_b132, s_b133, s_b134, s_b168]
noncomputable def I_b175 : List e2_In := [(179, 3, e2x_179)]
set_option maxRecDepth 1000000 in
theorem ck_b175 : e2_run (e2_cal S_b175 I_b175 4000 1) (e2_fin rs_b175) e2x_196 (fun _ => false) (fun _ _ _ _ _ => false) 4000 (e2_seek e2x_196 0) (e2_al 2 as_b175) [] E_b175 f_b175 = true := by decide +kernel
set_option maxRecDepth 1000000 in
theorem co_b175 : e2_okSB E_b175.length as_b175 f_b175 rs_b175 = true := by decide +kernel
theorem cs_b175 (hen : en_ok) (l : Launch) (hh : e2_hand_b l) : e2_smOk l 62 s_b175 := e2_con0 (H := 60) (n := 1) (C := evd_196) (S := S_b175) (I := I_b175) (fuel := 4000) [] hen ei_196 (e2_fa (hh _ hm_b39) (e2_fa ((cs_b80 hen l).mono (by decide)) (e2_fa ((cs_b81 hen l).mono (by decide)) (e2_fa ((cs_b93 hen l).mono (by decide)) (e2_fa ((cs_b94 hen l).mono (by decide)) (e2_fa ((cs_b95 hen l).mono (by decide)) (e2_fa ((cs_b96 hen l).mono (by decide)) (e2_fa ((cs_b97 hen l).mono (by decide)) (e2_fa ((cs_b100 hen l).mono (by decide)) (e2_fa ((cs_b103 hen l).mono (by decide)) (e2_fa ((cs_b104 hen l).mono (by decide)) (e2_fa ((cs_b105 hen l).mono (by decide)) (e2_fa ((cs_b106 hen l).mono (by decide)) (e2_fa ((cs_b131 hen l).mono (by decide)) (e2_fa ((cs_b132 hen l).mono (by decide)) (e2_fa ((cs_b133 hen l).mono (by decide)) (e2_fa ((cs_b134 hen l).mono (by decide)) (e2_fa ((cs_b168 hen l).mono (by decide)) e2_fz)))))))))))))))))) (e2_fa ein_179 e2_fz) (by decide) co_b175 ex2_196 ck_b175
/-! b176 X10_readGlyph -/
def as_b176 : List ev_V := [(2, 83, 0)]
def E_b176 : e2_E := [(2147483648, 2147583648, 0, 0), (2147483648, 2147483656, 1, 0), (2147483648, 2147485249, 2, 0)]
def bn1104 : e2_Q8 := (bn1022, bn898)
noncomputable def f_b176 : ev_H := (bn1104 : e2_Q8)
noncomputable def q_b176_0 : ev_H := (bn1099 : e2_Q8)
noncomputable def q_b176_1 : ev_H := (bn1100 : e2_Q8)
noncomputable def q_b176_2 : ev_H := (bn1101 : e2_Q8)
noncomputable def q_b176_3 : ev_H := (bn1102 : e2_Q8)
noncomputable def q_b176_4 : ev_H := (bn1103 : e2_Q8)
noncomputable def rs_b176 : e2_Rs := [((9, 0, 0), q_b176_0), ((9, 0, 0), q_b176_1), ((9, 0, 0), q_b176_2), ((9, 0, 0), q_b176_3), ((9, 0, 0), q_b176_4)]
noncomputable def s_b176 : e2_Sm := (196, as_b176, E_b176, f_b176, rs_b176)
noncomputable def S_b176 : List e2_Sm := [s_b40, s_b41, s_b42, s_b80, s_b81, s_b93, s_b94, s_b95, s_b96, s_b97, s_b103, s_b104, s_b105, s_b106, s_b116, s_b131, s_b132, s_b133, s_b134, s_b170]
noncomputable def I_b176 : List e2_In := [(179, 3, e2x_179)]
set_option maxRecDepth 1000000 in
theorem ck_b176 : e2_run (e2_cal S_b176 I_b176 4000 1) (e2_fin rs_b176) e2x_196 (fun _ => false) (fun _ _ _ _ _ => false) 4000 (e2_seek e2x_196 0) (e2_al 2 as_b176) [] E_b176 f_b176 = true := by decide +kernel
set_option maxRecDepth 1000000 in
theorem co_b176 : e2_okSB E_b176.length as_b176 f_b176 rs_b176 = true := by decide +kernel
theorem cs_b176 (hen : en_ok) (l : Launch) (hh : e2_hand_b l) : e2_smOk l 62 s_b176 := e2_con0 (H := 60) (n := 1) (C := evd_196) (S := S_b176) (I := I_b176) (fuel := 4000) [] hen ei_196 (e2_fa (hh _ hm_b40) (e2_fa (hh _ hm_b41) (e2_fa (hh _ hm_b42) (e2_fa ((cs_b80 hen l).mono (by decide)) (e2_fa ((cs_b81 hen l).mono (by decide)) (e2_fa ((cs_b93 hen l).mono (by decide)) (e2_fa ((cs_b94 hen l).mono (by decide)) (e2_fa ((cs_b95 hen l).mono (by decide)) (e2_fa ((cs_b96 hen l).mono (by decide)) (e2_fa ((cs_b97 hen l).mono (by decide)) (e2_fa ((cs_b103 hen l).mono (by decide)) (e2_fa ((cs_b104 hen l).mono (by decide)) (e2_fa ((cs_b105 hen l).mono (by decide)) (e2_fa ((cs_b106 hen l).mono (by decide)) (e2_fa ((cs_b116 hen l).mono (by decide)) (e2_fa ((cs_b131 hen l).mono (by decide)) (e2_fa ((cs_b132 hen l).mono (by decide)) (e2_fa ((cs_b133 hen l).mono (by decide)) (e2_fa ((cs_b134 hen l).mono (by decide)) (e2_fa ((cs_b170 hen l).mono (by decide)) e2_fz)))))))))))))))))))) (e2_fa ein_179 e2_fz) (by decide) co_b176 ex2_196 ck_b176
/-! b177 X10_readLine -/
def as_b177 : List ev_V := [(2, 83, 0)]
def E_b177 : e2_E := [(2147483648, 2147583648, 0, 0), (2147483648, 2147483656, 1, 0), (2147483648, 2147485249, 2, 0)]
def bn1105 : e2_Q8 := (bn1056, bn901)
noncomputable def f_b177 : ev_H := (bn1105 : e2_Q8)
noncomputable def q_b177_0 : ev_H := (bn1058 : e2_Q8)
noncomputable def q_b177_1 : ev_H := (bn1057 : e2_Q8)
noncomputable def q_b177_2 : ev_H := (bn1059 : e2_Q8)
noncomputable def q_b177_3 : ev_H := (bn1060 : e2_Q8)
noncomputable def q_b177_4 : ev_H := (bn1061 : e2_Q8)
def bn1106 : e2_Q7 := (bn1092, bn828)
def bn1107 : e2_Q8 := (bn1106, bn837)
noncomputable def q_b177_5 : ev_H := (bn1107 : e2_Q8)
def bn1108 : e2_Q8 := (bn1106, bn833)
noncomputable def q_b177_6 : ev_H := (bn1108 : e2_Q8)
def bn1109 : e2_Q8 := (bn1106, bn841)
noncomputable def q_b177_7 : ev_H := (bn1109 : e2_Q8)
def bn1110 : e2_Q8 := (bn1106, bn845)
noncomputable def q_b177_8 : ev_H := (bn1110 : e2_Q8)
def bn1111 : e2_Q8 := (bn1106, bn904)
noncomputable def q_b177_9 : ev_H := (bn1111 : e2_Q8)
noncomputable def rs_b177 : e2_Rs := [((9, 0, 0), q_b177_0), ((9, 0, 0), q_b177_1), ((9, 0, 0), q_b177_2), ((9, 0, 0), q_b177_3), ((9, 0, 0), q_b177_4), ((9, 0, 0), q_b177_5), ((9, 0, 0), q_b177_6), ((9, 0, 0), q_b177_7), ((9, 0, 0), q_b177_8), ((9, 0, 0), q_b177_9)]
noncomputable def s_b177 : e2_Sm := (187, as_b177, E_b177, f_b177, rs_b177)
noncomputable def S_b177 : List e2_Sm := [s_b74, s_b76, s_b77, s_b78, s_b79, s_b80, s_b81, s_b82, s_b83, s_b84, s_b85, s_b86, s_b98, s_b99, s_b124, s_b125, s_b126, s_b129, s_b172, s_b173, s_b175, s_b176]
noncomputable def I_b177 : List e2_In := [(170, 2, e2x_170), (173, 3, e2x_173), (174, 1, e2x_174), (178, 2, e2x_178), (179, 3, e2x_179), (180, 1, e2x_180), (186, 1, e2x_186)]
set_option maxRecDepth 1000000 in
theorem ck_b177 : e2_run (e2_cal S_b177 I_b177 4000 2) (e2_fin rs_b177) e2x_187 (fun _ => false) (fun _ _ _ _ _ => false) 4000 (e2_seek e2x_187 0) (e2_al 3 as_b177) [] E_b177 f_b177 = true := by decide +kernel
set_option maxRecDepth 1000000 in
theorem co_b177 : e2_okSB E_b177.length as_b177 f_b177 rs_b177 = true := by decide +kernel
theorem cs_b177 (hen : en_ok) (l : Launch) (hh : e2_hand_b l) : e2_smOk l 65 s_b177 := e2_con0 (H := 62) (n := 2) (C := evd_187) (S := S_b177) (I := I_b177) (fuel := 4000) [] hen ei_187 (e2_fa ((cs_b74 hen l).mono (by decide)) (e2_fa ((cs_b76 hen l).mono (by decide)) (e2_fa ((cs_b77 hen l).mono (by decide)) (e2_fa ((cs_b78 hen l).mono (by decide)) (e2_fa ((cs_b79 hen l).mono (by decide)) (e2_fa ((cs_b80 hen l).mono (by decide)) (e2_fa ((cs_b81 hen l).mono (by decide)) (e2_fa ((cs_b82 hen l).mono (by decide)) (e2_fa ((cs_b83 hen l).mono (by decide)) (e2_fa ((cs_b84 hen l).mono (by decide)) (e2_fa ((cs_b85 hen l).mono (by decide)) (e2_fa ((cs_b86 hen l).mono (by decide)) (e2_fa ((cs_b98 hen l).mono (by decide)) (e2_fa ((cs_b99 hen l).mono (by decide)) (e2_fa ((cs_b124 hen l hh).mono (by decide)) (e2_fa ((cs_b125 hen l hh).mono (by decide)) (e2_fa ((cs_b126 hen l).mono (by decide)) (e2_fa ((cs_b129 hen l).mono (by decide)) (e2_fa ((cs_b172 hen l).mono (by decide)) (e2_fa ((cs_b173 hen l).mono (by decide)) (e2_fa (cs_b175 hen l hh) (e2_fa (cs_b176 hen l hh) e2_fz)))))))))))))))))))))) (e2_fa ein_170 (e2_fa ein_173 (e2_fa ein_174 (e2_fa ein_178 (e2_fa ein_179 (e2_fa ein_180 (e2_fa ein_186 e2_fz))))))) (by decide) co_b177 ex2_187 ck_b177
/-! b178 X10_glyphHere -/
def as_b178 : List ev_V := [(2, 83, 0)]
def E_b178 : e2_E := [(2147483648, 2147583648, 0, 0), (2147483648, 2147483656, 1, 0), (2147483648, 2147485249, 2, 0)]
def bn1112 : e2_Q5 := (bn14, bn1069)
def bn1113 : e2_Q6 := (bn1112, bn334)
def bn1114 : e2_Q7 := (bn1113, bn273)
def bn1115 : e2_Q8 := (bn1114, bn573)
noncomputable def f_b178 : ev_H := (bn1115 : e2_Q8)
noncomputable def q_b178_0 : ev_H := (bn1115 : e2_Q8)
noncomputable def rs_b178 : e2_Rs := [((0, 4294967295, 0), q_b178_0)]
noncomputable def s_b178 : e2_Sm := (190, as_b178, E_b178, f_b178, rs_b178)
noncomputable def S_b178 : List e2_Sm := [s_b101]
noncomputable def I_b178 : List e2_In := []
set_option maxRecDepth 1000000 in
theorem ck_b178 : e2_run (e2_cal S_b178 I_b178 4000 0) (e2_fin rs_b178) e2x_190 (fun _ => false) (fun _ _ _ _ _ => false) 4000 (e2_seek e2x_190 0) (e2_al 1 as_b178) [] E_b178 f_b178 = true := by decide +kernel
set_option maxRecDepth 1000000 in
theorem co_b178 : e2_okSB E_b178.length as_b178 f_b178 rs_b178 = true := by decide +kernel
theorem cs_b178 (hen : en_ok) (l : Launch) : e2_smOk l 2 s_b178 := e2_con0 (H := 1) (n := 0) (C := evd_190) (S := S_b178) (I := I_b178) (fuel := 4000) [] hen ei_190 (e2_fa (cs_b101 hen l) e2_fz) e2_fz (by decide) co_b178 ex2_190 ck_b178
/-! b179 X10_readGlyph -/
def as_b179 : List ev_V := [(2, 83, 0)]
def E_b179 : e2_E := [(2147483648, 2147583648, 0, 0), (2147483648, 2147483656, 1, 0), (2147483648, 2147485249, 2, 0)]
noncomputable def f_b179 : ev_H := (bn1077 : e2_Q8)
def bc189 : ev_C := (50, [(1, 1, 4294967296), (0, 6, 0)])
def bn1116 : e2_Q1 := (bc189, bc3)
def bn1117 : e2_Q2 := (bn22, bn1116)
def bn1118 : e2_Q3 := (bn1117, bn27)
def bn1119 : e2_Q4 := (bn21, bn1118)
def bn1120 : e2_Q5 := (bn257, bn1119)
def bn1121 : e2_Q6 := (bn1120, bn266)
def bn1122 : e2_Q7 := (bn1121, bn687)
def bn1123 : e2_Q8 := (bn1122, bn708)
noncomputable def q_b179_0 : ev_H := (bn1123 : e2_Q8)
def bn1124 : e2_Q8 := (bn1122, bn713)
noncomputable def q_b179_1 : ev_H := (bn1124 : e2_Q8)
def bn1125 : e2_Q8 := (bn1122, bn718)
noncomputable def q_b179_2 : ev_H := (bn1125 : e2_Q8)
def bn1126 : e2_Q8 := (bn1122, bn723)
noncomputable def q_b179_3 : ev_H := (bn1126 : e2_Q8)
def bn1127 : e2_Q8 := (bn1122, bn696)
noncomputable def q_b179_4 : ev_H := (bn1127 : e2_Q8)
noncomputable def rs_b179 : e2_Rs := [((9, 0, 0), q_b179_0), ((9, 0, 0), q_b179_1), ((9, 0, 0), q_b179_2), ((9, 0, 0), q_b179_3), ((9, 0, 0), q_b179_4)]
noncomputable def s_b179 : e2_Sm := (196, as_b179, E_b179, f_b179, rs_b179)
noncomputable def S_b179 : List e2_Sm := [s_b43, s_b80, s_b81, s_b93, s_b94, s_b95, s_b96, s_b97, s_b100, s_b103, s_b104, s_b105, s_b106, s_b108, s_b110, s_b112, s_b114, s_b178]
noncomputable def I_b179 : List e2_In := [(179, 3, e2x_179)]
set_option maxRecDepth 1000000 in
theorem ck_b179 : e2_run (e2_cal S_b179 I_b179 4000 1) (e2_fin rs_b179) e2x_196 (fun _ => false) (fun _ _ _ _ _ => false) 4000 (e2_seek e2x_196 0) (e2_al 2 as_b179) [] E_b179 f_b179 = true := by decide +kernel
set_option maxRecDepth 1000000 in
theorem co_b179 : e2_okSB E_b179.length as_b179 f_b179 rs_b179 = true := by decide +kernel
theorem cs_b179 (hen : en_ok) (l : Launch) (hh : e2_hand_b l) : e2_smOk l 62 s_b179 := e2_con0 (H := 60) (n := 1) (C := evd_196) (S := S_b179) (I := I_b179) (fuel := 4000) [] hen ei_196 (e2_fa (hh _ hm_b43) (e2_fa ((cs_b80 hen l).mono (by decide)) (e2_fa ((cs_b81 hen l).mono (by decide)) (e2_fa ((cs_b93 hen l).mono (by decide)) (e2_fa ((cs_b94 hen l).mono (by decide)) (e2_fa ((cs_b95 hen l).mono (by decide)) (e2_fa ((cs_b96 hen l).mono (by decide)) (e2_fa ((cs_b97 hen l).mono (by decide)) (e2_fa ((cs_b100 hen l).mono (by decide)) (e2_fa ((cs_b103 hen l).mono (by decide)) (e2_fa ((cs_b104 hen l).mono (by decide)) (e2_fa ((cs_b105 hen l).mono (by decide)) (e2_fa ((cs_b106 hen l).mono (by decide)) (e2_fa ((cs_b108 hen l).mono (by decide)) (e2_fa ((cs_b110 hen l).mono (by decide)) (e2_fa ((cs_b112 hen l).mono (by decide)) (e2_fa ((cs_b114 hen l).mono (by decide)) (e2_fa ((cs_b178 hen l).mono (by decide)) e2_fz)))))))))))))))))) (e2_fa ein_179 e2_fz) (by decide) co_b179 ex2_196 ck_b179
/-! b180 X10_glyphHere -/
def as_b180 : List ev_V := [(2, 83, 0)]
def E_b180 : e2_E := [(2147483648, 2147583648, 0, 0), (2147483648, 2147483656, 1, 0), (2147483648, 2147485249, 2, 0)]
def bn1128 : e2_Q7 := (bn1113, bn727)
def bn1129 : e2_Q8 := (bn1128, bn729)
noncomputable def f_b180 : ev_H := (bn1129 : e2_Q8)
noncomputable def q_b180_0 : ev_H := (bn1129 : e2_Q8)
noncomputable def rs_b180 : e2_Rs := [((11, 2147483647, 2147483655), q_b180_0)]
noncomputable def s_b180 : e2_Sm := (190, as_b180, E_b180, f_b180, rs_b180)
noncomputable def S_b180 : List e2_Sm := [s_b117]
noncomputable def I_b180 : List e2_In := []
set_option maxRecDepth 1000000 in
theorem ck_b180 : e2_run (e2_cal S_b180 I_b180 4000 0) (e2_fin rs_b180) e2x_190 (fun _ => false) (fun _ _ _ _ _ => false) 4000 (e2_seek e2x_190 0) (e2_al 1 as_b180) [] E_b180 f_b180 = true := by decide +kernel
set_option maxRecDepth 1000000 in
theorem co_b180 : e2_okSB E_b180.length as_b180 f_b180 rs_b180 = true := by decide +kernel
theorem cs_b180 (hen : en_ok) (l : Launch) : e2_smOk l 2 s_b180 := e2_con0 (H := 1) (n := 0) (C := evd_190) (S := S_b180) (I := I_b180) (fuel := 4000) [] hen ei_190 (e2_fa (cs_b117 hen l) e2_fz) e2_fz (by decide) co_b180 ex2_190 ck_b180
/-! b181 X10_readGlyph -/
def as_b181 : List ev_V := [(2, 83, 0)]
def E_b181 : e2_E := [(2147483648, 2147583648, 0, 0), (2147483648, 2147483656, 1, 0), (2147483648, 2147485249, 2, 0)]
def bn1130 : e2_Q8 := (bn1072, bn736)
noncomputable def f_b181 : ev_H := (bn1130 : e2_Q8)
noncomputable def q_b181_0 : ev_H := (bn1123 : e2_Q8)
noncomputable def q_b181_1 : ev_H := (bn1124 : e2_Q8)
noncomputable def q_b181_2 : ev_H := (bn1125 : e2_Q8)
noncomputable def q_b181_3 : ev_H := (bn1126 : e2_Q8)
noncomputable def q_b181_4 : ev_H := (bn1127 : e2_Q8)
noncomputable def rs_b181 : e2_Rs := [((9, 0, 0), q_b181_0), ((9, 0, 0), q_b181_1), ((9, 0, 0), q_b181_2), ((9, 0, 0), q_b181_3), ((9, 0, 0), q_b181_4)]
noncomputable def s_b181 : e2_Sm := (196, as_b181, E_b181, f_b181, rs_b181)
noncomputable def S_b181 : List e2_Sm := [s_b44, s_b45, s_b46, s_b80, s_b81, s_b93, s_b94, s_b95, s_b96, s_b97, s_b103, s_b104, s_b105, s_b106, s_b108, s_b110, s_b112, s_b114, s_b116, s_b180]
noncomputable def I_b181 : List e2_In := [(179, 3, e2x_179)]
set_option maxRecDepth 1000000 in
theorem ck_b181 : e2_run (e2_cal S_b181 I_b181 4000 1) (e2_fin rs_b181) e2x_196 (fun _ => false) (fun _ _ _ _ _ => false) 4000 (e2_seek e2x_196 0) (e2_al 2 as_b181) [] E_b181 f_b181 = true := by decide +kernel
set_option maxRecDepth 1000000 in
theorem co_b181 : e2_okSB E_b181.length as_b181 f_b181 rs_b181 = true := by decide +kernel
theorem cs_b181 (hen : en_ok) (l : Launch) (hh : e2_hand_b l) : e2_smOk l 62 s_b181 := e2_con0 (H := 60) (n := 1) (C := evd_196) (S := S_b181) (I := I_b181) (fuel := 4000) [] hen ei_196 (e2_fa (hh _ hm_b44) (e2_fa (hh _ hm_b45) (e2_fa (hh _ hm_b46) (e2_fa ((cs_b80 hen l).mono (by decide)) (e2_fa ((cs_b81 hen l).mono (by decide)) (e2_fa ((cs_b93 hen l).mono (by decide)) (e2_fa ((cs_b94 hen l).mono (by decide)) (e2_fa ((cs_b95 hen l).mono (by decide)) (e2_fa ((cs_b96 hen l).mono (by decide)) (e2_fa ((cs_b97 hen l).mono (by decide)) (e2_fa ((cs_b103 hen l).mono (by decide)) (e2_fa ((cs_b104 hen l).mono (by decide)) (e2_fa ((cs_b105 hen l).mono (by decide)) (e2_fa ((cs_b106 hen l).mono (by decide)) (e2_fa ((cs_b108 hen l).mono (by decide)) (e2_fa ((cs_b110 hen l).mono (by decide)) (e2_fa ((cs_b112 hen l).mono (by decide)) (e2_fa ((cs_b114 hen l).mono (by decide)) (e2_fa ((cs_b116 hen l).mono (by decide)) (e2_fa ((cs_b180 hen l).mono (by decide)) e2_fz)))))))))))))))))))) (e2_fa ein_179 e2_fz) (by decide) co_b181 ex2_196 ck_b181
/-! b182 X10_readNever -/
def as_b182 : List ev_V := [(2, 83, 0)]
def E_b182 : e2_E := [(2147483648, 2147583648, 0, 0), (2147483648, 2147483656, 1, 0), (2147483648, 2147485249, 2, 0)]
noncomputable def f_b182 : ev_H := (bn1115 : e2_Q8)
def bn1131 : e2_Q8 := (bn1114, bn555)
noncomputable def q_b182_0 : ev_H := (bn1131 : e2_Q8)
noncomputable def rs_b182 : e2_Rs := [((9, 0, 0), q_b182_0)]
noncomputable def s_b182 : e2_Sm := (197, as_b182, E_b182, f_b182, rs_b182)
noncomputable def S_b182 : List e2_Sm := [s_b103, s_b178]
noncomputable def I_b182 : List e2_In := [(174, 1, e2x_174)]
set_option maxRecDepth 1000000 in
theorem ck_b182 : e2_run (e2_cal S_b182 I_b182 4000 1) (e2_fin rs_b182) e2x_197 (fun _ => false) (fun _ _ _ _ _ => false) 4000 (e2_seek e2x_197 0) (e2_al 3 as_b182) [] E_b182 f_b182 = true := by decide +kernel
set_option maxRecDepth 1000000 in
theorem co_b182 : e2_okSB E_b182.length as_b182 f_b182 rs_b182 = true := by decide +kernel
theorem cs_b182 (hen : en_ok) (l : Launch) : e2_smOk l 5 s_b182 := e2_con0 (H := 3) (n := 1) (C := evd_197) (S := S_b182) (I := I_b182) (fuel := 4000) [] hen ei_197 (e2_fa (cs_b103 hen l) (e2_fa ((cs_b178 hen l).mono (by decide)) e2_fz)) (e2_fa ein_174 e2_fz) (by decide) co_b182 ex2_197 ck_b182
/-! b183 X10_readNever -/
def as_b183 : List ev_V := [(2, 83, 0)]
def E_b183 : e2_E := [(2147483648, 2147583648, 0, 0), (2147483648, 2147483656, 1, 0), (2147483648, 2147485249, 2, 0)]
def bn1132 : e2_Q6 := (bn1112, bn739)
def bn1133 : e2_Q7 := (bn1132, bn727)
def bn1134 : e2_Q8 := (bn1133, bn743)
noncomputable def f_b183 : ev_H := (bn1134 : e2_Q8)
def bn1135 : e2_Q8 := (bn1133, bn745)
noncomputable def q_b183_0 : ev_H := (bn1135 : e2_Q8)
def bn1136 : e2_Q8 := (bn1133, bn747)
noncomputable def q_b183_1 : ev_H := (bn1136 : e2_Q8)
def bn1137 : e2_Q8 := (bn1133, bn749)
noncomputable def q_b183_2 : ev_H := (bn1137 : e2_Q8)
def bn1138 : e2_Q8 := (bn1133, bn751)
noncomputable def q_b183_3 : ev_H := (bn1138 : e2_Q8)
noncomputable def rs_b183 : e2_Rs := [((9, 0, 0), q_b183_0), ((9, 0, 0), q_b183_1), ((9, 0, 0), q_b183_2), ((9, 0, 0), q_b183_3)]
noncomputable def s_b183 : e2_Sm := (197, as_b183, E_b183, f_b183, rs_b183)
noncomputable def S_b183 : List e2_Sm := [s_b103, s_b121, s_b122, s_b178, s_b180]
noncomputable def I_b183 : List e2_In := [(173, 3, e2x_173), (174, 1, e2x_174)]
set_option maxRecDepth 1000000 in
theorem ck_b183 : e2_run (e2_cal S_b183 I_b183 4000 1) (e2_fin rs_b183) e2x_197 (fun _ => false) (fun _ _ _ _ _ => false) 4000 (e2_seek e2x_197 0) (e2_al 3 as_b183) [] E_b183 f_b183 = true := by decide +kernel
set_option maxRecDepth 1000000 in
theorem co_b183 : e2_okSB E_b183.length as_b183 f_b183 rs_b183 = true := by decide +kernel
theorem cs_b183 (hen : en_ok) (l : Launch) : e2_smOk l 8 s_b183 := e2_con0 (H := 6) (n := 1) (C := evd_197) (S := S_b183) (I := I_b183) (fuel := 4000) [] hen ei_197 (e2_fa ((cs_b103 hen l).mono (by decide)) (e2_fa (cs_b121 hen l) (e2_fa ((cs_b122 hen l).mono (by decide)) (e2_fa ((cs_b178 hen l).mono (by decide)) (e2_fa ((cs_b180 hen l).mono (by decide)) e2_fz))))) (e2_fa ein_173 (e2_fa ein_174 e2_fz)) (by decide) co_b183 ex2_197 ck_b183
/-! b184 X10_readLine -/
def as_b184 : List ev_V := [(2, 83, 0)]
def E_b184 : e2_E := [(2147483648, 2147583648, 0, 0), (2147483648, 2147483656, 1, 0), (2147483648, 2147485249, 2, 0)]
def bn1139 : e2_Q8 := (bn1093, bn824)
noncomputable def f_b184 : ev_H := (bn1139 : e2_Q8)
noncomputable def q_b184_0 : ev_H := (bn1108 : e2_Q8)
noncomputable def q_b184_1 : ev_H := (bn1107 : e2_Q8)
noncomputable def q_b184_2 : ev_H := (bn1109 : e2_Q8)
noncomputable def q_b184_3 : ev_H := (bn1110 : e2_Q8)
noncomputable def q_b184_4 : ev_H := (bn1098 : e2_Q8)
def bn1140 : e2_Q4 := (bn350, bn1118)
def bn1141 : e2_Q5 := (bn257, bn1140)
def bn1142 : e2_Q6 := (bn1141, bn805)
def bn1143 : e2_Q7 := (bn1142, bn812)
def bn1144 : e2_Q8 := (bn1143, bn856)
noncomputable def q_b184_5 : ev_H := (bn1144 : e2_Q8)
def bn1145 : e2_Q8 := (bn1143, bn859)
noncomputable def q_b184_6 : ev_H := (bn1145 : e2_Q8)
def bn1146 : e2_Q8 := (bn1143, bn862)
noncomputable def q_b184_7 : ev_H := (bn1146 : e2_Q8)
def bn1147 : e2_Q8 := (bn1143, bn865)
noncomputable def q_b184_8 : ev_H := (bn1147 : e2_Q8)
def bn1148 : e2_Q8 := (bn1143, bn849)
noncomputable def q_b184_9 : ev_H := (bn1148 : e2_Q8)
noncomputable def rs_b184 : e2_Rs := [((9, 0, 0), q_b184_0), ((9, 0, 0), q_b184_1), ((9, 0, 0), q_b184_2), ((9, 0, 0), q_b184_3), ((9, 0, 0), q_b184_4), ((9, 0, 0), q_b184_5), ((9, 0, 0), q_b184_6), ((9, 0, 0), q_b184_7), ((9, 0, 0), q_b184_8), ((9, 0, 0), q_b184_9)]
noncomputable def s_b184 : e2_Sm := (187, as_b184, E_b184, f_b184, rs_b184)
noncomputable def S_b184 : List e2_Sm := [s_b74, s_b76, s_b77, s_b78, s_b79, s_b80, s_b81, s_b82, s_b83, s_b84, s_b85, s_b86, s_b98, s_b99, s_b124, s_b125, s_b126, s_b129, s_b179, s_b181, s_b182, s_b183]
noncomputable def I_b184 : List e2_In := [(170, 2, e2x_170), (173, 3, e2x_173), (174, 1, e2x_174), (178, 2, e2x_178), (179, 3, e2x_179), (180, 1, e2x_180), (186, 1, e2x_186)]
set_option maxRecDepth 1000000 in
theorem ck_b184 : e2_run (e2_cal S_b184 I_b184 4000 2) (e2_fin rs_b184) e2x_187 (fun _ => false) (fun _ _ _ _ _ => false) 4000 (e2_seek e2x_187 0) (e2_al 3 as_b184) [] E_b184 f_b184 = true := by decide +kernel
set_option maxRecDepth 1000000 in
theorem co_b184 : e2_okSB E_b184.length as_b184 f_b184 rs_b184 = true := by decide +kernel
theorem cs_b184 (hen : en_ok) (l : Launch) (hh : e2_hand_b l) : e2_smOk l 65 s_b184 := e2_con0 (H := 62) (n := 2) (C := evd_187) (S := S_b184) (I := I_b184) (fuel := 4000) [] hen ei_187 (e2_fa ((cs_b74 hen l).mono (by decide)) (e2_fa ((cs_b76 hen l).mono (by decide)) (e2_fa ((cs_b77 hen l).mono (by decide)) (e2_fa ((cs_b78 hen l).mono (by decide)) (e2_fa ((cs_b79 hen l).mono (by decide)) (e2_fa ((cs_b80 hen l).mono (by decide)) (e2_fa ((cs_b81 hen l).mono (by decide)) (e2_fa ((cs_b82 hen l).mono (by decide)) (e2_fa ((cs_b83 hen l).mono (by decide)) (e2_fa ((cs_b84 hen l).mono (by decide)) (e2_fa ((cs_b85 hen l).mono (by decide)) (e2_fa ((cs_b86 hen l).mono (by decide)) (e2_fa ((cs_b98 hen l).mono (by decide)) (e2_fa ((cs_b99 hen l).mono (by decide)) (e2_fa ((cs_b124 hen l hh).mono (by decide)) (e2_fa ((cs_b125 hen l hh).mono (by decide)) (e2_fa ((cs_b126 hen l).mono (by decide)) (e2_fa ((cs_b129 hen l).mono (by decide)) (e2_fa (cs_b179 hen l hh) (e2_fa (cs_b181 hen l hh) (e2_fa ((cs_b182 hen l).mono (by decide)) (e2_fa ((cs_b183 hen l).mono (by decide)) e2_fz)))))))))))))))))))))) (e2_fa ein_170 (e2_fa ein_173 (e2_fa ein_174 (e2_fa ein_178 (e2_fa ein_179 (e2_fa ein_180 (e2_fa ein_186 e2_fz))))))) (by decide) co_b184 ex2_187 ck_b184
/-! b185 X10_readGlyph -/
def as_b185 : List ev_V := [(2, 83, 0)]
def E_b185 : e2_E := [(2147483648, 2147583648, 0, 0), (2147483648, 2147483656, 1, 0), (2147483648, 2147485249, 2, 0)]
noncomputable def f_b185 : ev_H := (bn1103 : e2_Q8)
def bn1149 : e2_Q8 := (bn1122, bn885)
noncomputable def q_b185_0 : ev_H := (bn1149 : e2_Q8)
def bn1150 : e2_Q8 := (bn1122, bn888)
noncomputable def q_b185_1 : ev_H := (bn1150 : e2_Q8)
def bn1151 : e2_Q8 := (bn1122, bn891)
noncomputable def q_b185_2 : ev_H := (bn1151 : e2_Q8)
def bn1152 : e2_Q8 := (bn1122, bn894)
noncomputable def q_b185_3 : ev_H := (bn1152 : e2_Q8)
def bn1153 : e2_Q8 := (bn1122, bn882)
noncomputable def q_b185_4 : ev_H := (bn1153 : e2_Q8)
noncomputable def rs_b185 : e2_Rs := [((9, 0, 0), q_b185_0), ((9, 0, 0), q_b185_1), ((9, 0, 0), q_b185_2), ((9, 0, 0), q_b185_3), ((9, 0, 0), q_b185_4)]
noncomputable def s_b185 : e2_Sm := (196, as_b185, E_b185, f_b185, rs_b185)
noncomputable def S_b185 : List e2_Sm := [s_b47, s_b80, s_b81, s_b93, s_b94, s_b95, s_b96, s_b97, s_b100, s_b103, s_b104, s_b105, s_b106, s_b131, s_b132, s_b133, s_b134, s_b178]
noncomputable def I_b185 : List e2_In := [(179, 3, e2x_179)]
set_option maxRecDepth 1000000 in
theorem ck_b185 : e2_run (e2_cal S_b185 I_b185 4000 1) (e2_fin rs_b185) e2x_196 (fun _ => false) (fun _ _ _ _ _ => false) 4000 (e2_seek e2x_196 0) (e2_al 2 as_b185) [] E_b185 f_b185 = true := by decide +kernel
set_option maxRecDepth 1000000 in
theorem co_b185 : e2_okSB E_b185.length as_b185 f_b185 rs_b185 = true := by decide +kernel
theorem cs_b185 (hen : en_ok) (l : Launch) (hh : e2_hand_b l) : e2_smOk l 62 s_b185 := e2_con0 (H := 60) (n := 1) (C := evd_196) (S := S_b185) (I := I_b185) (fuel := 4000) [] hen ei_196 (e2_fa (hh _ hm_b47) (e2_fa ((cs_b80 hen l).mono (by decide)) (e2_fa ((cs_b81 hen l).mono (by decide)) (e2_fa ((cs_b93 hen l).mono (by decide)) (e2_fa ((cs_b94 hen l).mono (by decide)) (e2_fa ((cs_b95 hen l).mono (by decide)) (e2_fa ((cs_b96 hen l).mono (by decide)) (e2_fa ((cs_b97 hen l).mono (by decide)) (e2_fa ((cs_b100 hen l).mono (by decide)) (e2_fa ((cs_b103 hen l).mono (by decide)) (e2_fa ((cs_b104 hen l).mono (by decide)) (e2_fa ((cs_b105 hen l).mono (by decide)) (e2_fa ((cs_b106 hen l).mono (by decide)) (e2_fa ((cs_b131 hen l).mono (by decide)) (e2_fa ((cs_b132 hen l).mono (by decide)) (e2_fa ((cs_b133 hen l).mono (by decide)) (e2_fa ((cs_b134 hen l).mono (by decide)) (e2_fa ((cs_b178 hen l).mono (by decide)) e2_fz)))))))))))))))))) (e2_fa ein_179 e2_fz) (by decide) co_b185 ex2_196 ck_b185
/-! b186 X10_readGlyph -/
def as_b186 : List ev_V := [(2, 83, 0)]
def E_b186 : e2_E := [(2147483648, 2147583648, 0, 0), (2147483648, 2147483656, 1, 0), (2147483648, 2147485249, 2, 0)]
def bn1154 : e2_Q8 := (bn1072, bn898)
noncomputable def f_b186 : ev_H := (bn1154 : e2_Q8)
noncomputable def q_b186_0 : ev_H := (bn1149 : e2_Q8)
noncomputable def q_b186_1 : ev_H := (bn1150 : e2_Q8)
noncomputable def q_b186_2 : ev_H := (bn1151 : e2_Q8)
noncomputable def q_b186_3 : ev_H := (bn1152 : e2_Q8)
noncomputable def q_b186_4 : ev_H := (bn1153 : e2_Q8)
noncomputable def rs_b186 : e2_Rs := [((9, 0, 0), q_b186_0), ((9, 0, 0), q_b186_1), ((9, 0, 0), q_b186_2), ((9, 0, 0), q_b186_3), ((9, 0, 0), q_b186_4)]
noncomputable def s_b186 : e2_Sm := (196, as_b186, E_b186, f_b186, rs_b186)
noncomputable def S_b186 : List e2_Sm := [s_b48, s_b49, s_b50, s_b80, s_b81, s_b93, s_b94, s_b95, s_b96, s_b97, s_b103, s_b104, s_b105, s_b106, s_b116, s_b131, s_b132, s_b133, s_b134, s_b180]
noncomputable def I_b186 : List e2_In := [(179, 3, e2x_179)]
set_option maxRecDepth 1000000 in
theorem ck_b186 : e2_run (e2_cal S_b186 I_b186 4000 1) (e2_fin rs_b186) e2x_196 (fun _ => false) (fun _ _ _ _ _ => false) 4000 (e2_seek e2x_196 0) (e2_al 2 as_b186) [] E_b186 f_b186 = true := by decide +kernel
set_option maxRecDepth 1000000 in
theorem co_b186 : e2_okSB E_b186.length as_b186 f_b186 rs_b186 = true := by decide +kernel
theorem cs_b186 (hen : en_ok) (l : Launch) (hh : e2_hand_b l) : e2_smOk l 62 s_b186 := e2_con0 (H := 60) (n := 1) (C := evd_196) (S := S_b186) (I := I_b186) (fuel := 4000) [] hen ei_196 (e2_fa (hh _ hm_b48) (e2_fa (hh _ hm_b49) (e2_fa (hh _ hm_b50) (e2_fa ((cs_b80 hen l).mono (by decide)) (e2_fa ((cs_b81 hen l).mono (by decide)) (e2_fa ((cs_b93 hen l).mono (by decide)) (e2_fa ((cs_b94 hen l).mono (by decide)) (e2_fa ((cs_b95 hen l).mono (by decide)) (e2_fa ((cs_b96 hen l).mono (by decide)) (e2_fa ((cs_b97 hen l).mono (by decide)) (e2_fa ((cs_b103 hen l).mono (by decide)) (e2_fa ((cs_b104 hen l).mono (by decide)) (e2_fa ((cs_b105 hen l).mono (by decide)) (e2_fa ((cs_b106 hen l).mono (by decide)) (e2_fa ((cs_b116 hen l).mono (by decide)) (e2_fa ((cs_b131 hen l).mono (by decide)) (e2_fa ((cs_b132 hen l).mono (by decide)) (e2_fa ((cs_b133 hen l).mono (by decide)) (e2_fa ((cs_b134 hen l).mono (by decide)) (e2_fa ((cs_b180 hen l).mono (by decide)) e2_fz)))))))))))))))))))) (e2_fa ein_179 e2_fz) (by decide) co_b186 ex2_196 ck_b186
/-! b187 X10_readLine -/
def as_b187 : List ev_V := [(2, 83, 0)]
def E_b187 : e2_E := [(2147483648, 2147583648, 0, 0), (2147483648, 2147483656, 1, 0), (2147483648, 2147485249, 2, 0)]
def bn1155 : e2_Q8 := (bn1106, bn901)
noncomputable def f_b187 : ev_H := (bn1155 : e2_Q8)
noncomputable def q_b187_0 : ev_H := (bn1108 : e2_Q8)
noncomputable def q_b187_1 : ev_H := (bn1107 : e2_Q8)
noncomputable def q_b187_2 : ev_H := (bn1109 : e2_Q8)
noncomputable def q_b187_3 : ev_H := (bn1110 : e2_Q8)
noncomputable def q_b187_4 : ev_H := (bn1111 : e2_Q8)
def bn1156 : e2_Q7 := (bn1142, bn828)
def bn1157 : e2_Q8 := (bn1156, bn837)
noncomputable def q_b187_5 : ev_H := (bn1157 : e2_Q8)
def bn1158 : e2_Q8 := (bn1156, bn833)
noncomputable def q_b187_6 : ev_H := (bn1158 : e2_Q8)
def bn1159 : e2_Q8 := (bn1156, bn841)
noncomputable def q_b187_7 : ev_H := (bn1159 : e2_Q8)
def bn1160 : e2_Q8 := (bn1156, bn845)
noncomputable def q_b187_8 : ev_H := (bn1160 : e2_Q8)
def bn1161 : e2_Q8 := (bn1156, bn904)
noncomputable def q_b187_9 : ev_H := (bn1161 : e2_Q8)
noncomputable def rs_b187 : e2_Rs := [((9, 0, 0), q_b187_0), ((9, 0, 0), q_b187_1), ((9, 0, 0), q_b187_2), ((9, 0, 0), q_b187_3), ((9, 0, 0), q_b187_4), ((9, 0, 0), q_b187_5), ((9, 0, 0), q_b187_6), ((9, 0, 0), q_b187_7), ((9, 0, 0), q_b187_8), ((9, 0, 0), q_b187_9)]
noncomputable def s_b187 : e2_Sm := (187, as_b187, E_b187, f_b187, rs_b187)
noncomputable def S_b187 : List e2_Sm := [s_b74, s_b76, s_b77, s_b78, s_b79, s_b80, s_b81, s_b82, s_b83, s_b84, s_b85, s_b86, s_b98, s_b99, s_b124, s_b125, s_b126, s_b129, s_b182, s_b183, s_b185, s_b186]
noncomputable def I_b187 : List e2_In := [(170, 2, e2x_170), (173, 3, e2x_173), (174, 1, e2x_174), (178, 2, e2x_178), (179, 3, e2x_179), (180, 1, e2x_180), (186, 1, e2x_186)]
set_option maxRecDepth 1000000 in
theorem ck_b187 : e2_run (e2_cal S_b187 I_b187 4000 2) (e2_fin rs_b187) e2x_187 (fun _ => false) (fun _ _ _ _ _ => false) 4000 (e2_seek e2x_187 0) (e2_al 3 as_b187) [] E_b187 f_b187 = true := by decide +kernel
set_option maxRecDepth 1000000 in
theorem co_b187 : e2_okSB E_b187.length as_b187 f_b187 rs_b187 = true := by decide +kernel
theorem cs_b187 (hen : en_ok) (l : Launch) (hh : e2_hand_b l) : e2_smOk l 65 s_b187 := e2_con0 (H := 62) (n := 2) (C := evd_187) (S := S_b187) (I := I_b187) (fuel := 4000) [] hen ei_187 (e2_fa ((cs_b74 hen l).mono (by decide)) (e2_fa ((cs_b76 hen l).mono (by decide)) (e2_fa ((cs_b77 hen l).mono (by decide)) (e2_fa ((cs_b78 hen l).mono (by decide)) (e2_fa ((cs_b79 hen l).mono (by decide)) (e2_fa ((cs_b80 hen l).mono (by decide)) (e2_fa ((cs_b81 hen l).mono (by decide)) (e2_fa ((cs_b82 hen l).mono (by decide)) (e2_fa ((cs_b83 hen l).mono (by decide)) (e2_fa ((cs_b84 hen l).mono (by decide)) (e2_fa ((cs_b85 hen l).mono (by decide)) (e2_fa ((cs_b86 hen l).mono (by decide)) (e2_fa ((cs_b98 hen l).mono (by decide)) (e2_fa ((cs_b99 hen l).mono (by decide)) (e2_fa ((cs_b124 hen l hh).mono (by decide)) (e2_fa ((cs_b125 hen l hh).mono (by decide)) (e2_fa ((cs_b126 hen l).mono (by decide)) (e2_fa ((cs_b129 hen l).mono (by decide)) (e2_fa ((cs_b182 hen l).mono (by decide)) (e2_fa ((cs_b183 hen l).mono (by decide)) (e2_fa (cs_b185 hen l hh) (e2_fa (cs_b186 hen l hh) e2_fz)))))))))))))))))))))) (e2_fa ein_170 (e2_fa ein_173 (e2_fa ein_174 (e2_fa ein_178 (e2_fa ein_179 (e2_fa ein_180 (e2_fa ein_186 e2_fz))))))) (by decide) co_b187 ex2_187 ck_b187
/-! b188 X10_glyphHere -/
def as_b188 : List ev_V := [(2, 83, 0)]
def E_b188 : e2_E := [(2147483648, 2147583648, 0, 0), (2147483648, 2147483656, 1, 0), (2147483648, 2147485249, 2, 0)]
def bn1162 : e2_Q5 := (bn14, bn1119)
def bn1163 : e2_Q6 := (bn1162, bn334)
def bn1164 : e2_Q7 := (bn1163, bn273)
def bn1165 : e2_Q8 := (bn1164, bn573)
noncomputable def f_b188 : ev_H := (bn1165 : e2_Q8)
noncomputable def q_b188_0 : ev_H := (bn1165 : e2_Q8)
noncomputable def rs_b188 : e2_Rs := [((0, 4294967295, 0), q_b188_0)]
noncomputable def s_b188 : e2_Sm := (190, as_b188, E_b188, f_b188, rs_b188)
noncomputable def S_b188 : List e2_Sm := [s_b101]
noncomputable def I_b188 : List e2_In := []
set_option maxRecDepth 1000000 in
theorem ck_b188 : e2_run (e2_cal S_b188 I_b188 4000 0) (e2_fin rs_b188) e2x_190 (fun _ => false) (fun _ _ _ _ _ => false) 4000 (e2_seek e2x_190 0) (e2_al 1 as_b188) [] E_b188 f_b188 = true := by decide +kernel
set_option maxRecDepth 1000000 in
theorem co_b188 : e2_okSB E_b188.length as_b188 f_b188 rs_b188 = true := by decide +kernel
theorem cs_b188 (hen : en_ok) (l : Launch) : e2_smOk l 2 s_b188 := e2_con0 (H := 1) (n := 0) (C := evd_190) (S := S_b188) (I := I_b188) (fuel := 4000) [] hen ei_190 (e2_fa (cs_b101 hen l) e2_fz) e2_fz (by decide) co_b188 ex2_190 ck_b188
/-! b189 X10_readGlyph -/
def as_b189 : List ev_V := [(2, 83, 0)]
def E_b189 : e2_E := [(2147483648, 2147583648, 0, 0), (2147483648, 2147483656, 1, 0), (2147483648, 2147485249, 2, 0)]
noncomputable def f_b189 : ev_H := (bn1127 : e2_Q8)
def bc190 : ev_C := (50, [(1, 1, 4294967296), (0, 7, 0)])
def bn1166 : e2_Q1 := (bc190, bc3)
def bn1167 : e2_Q2 := (bn22, bn1166)
def bn1168 : e2_Q3 := (bn1167, bn27)
def bn1169 : e2_Q4 := (bn21, bn1168)
def bn1170 : e2_Q5 := (bn257, bn1169)
def bn1171 : e2_Q6 := (bn1170, bn266)
def bn1172 : e2_Q7 := (bn1171, bn687)
def bn1173 : e2_Q8 := (bn1172, bn708)
noncomputable def q_b189_0 : ev_H := (bn1173 : e2_Q8)
def bn1174 : e2_Q8 := (bn1172, bn713)
noncomputable def q_b189_1 : ev_H := (bn1174 : e2_Q8)
def bn1175 : e2_Q8 := (bn1172, bn718)
noncomputable def q_b189_2 : ev_H := (bn1175 : e2_Q8)
def bn1176 : e2_Q8 := (bn1172, bn723)
noncomputable def q_b189_3 : ev_H := (bn1176 : e2_Q8)
def bn1177 : e2_Q8 := (bn1172, bn696)
noncomputable def q_b189_4 : ev_H := (bn1177 : e2_Q8)
noncomputable def rs_b189 : e2_Rs := [((9, 0, 0), q_b189_0), ((9, 0, 0), q_b189_1), ((9, 0, 0), q_b189_2), ((9, 0, 0), q_b189_3), ((9, 0, 0), q_b189_4)]
noncomputable def s_b189 : e2_Sm := (196, as_b189, E_b189, f_b189, rs_b189)
noncomputable def S_b189 : List e2_Sm := [s_b51, s_b80, s_b81, s_b93, s_b94, s_b95, s_b96, s_b97, s_b100, s_b103, s_b104, s_b105, s_b106, s_b108, s_b110, s_b112, s_b114, s_b188]
noncomputable def I_b189 : List e2_In := [(179, 3, e2x_179)]
set_option maxRecDepth 1000000 in
theorem ck_b189 : e2_run (e2_cal S_b189 I_b189 4000 1) (e2_fin rs_b189) e2x_196 (fun _ => false) (fun _ _ _ _ _ => false) 4000 (e2_seek e2x_196 0) (e2_al 2 as_b189) [] E_b189 f_b189 = true := by decide +kernel
set_option maxRecDepth 1000000 in
theorem co_b189 : e2_okSB E_b189.length as_b189 f_b189 rs_b189 = true := by decide +kernel
theorem cs_b189 (hen : en_ok) (l : Launch) (hh : e2_hand_b l) : e2_smOk l 62 s_b189 := e2_con0 (H := 60) (n := 1) (C := evd_196) (S := S_b189) (I := I_b189) (fuel := 4000) [] hen ei_196 (e2_fa (hh _ hm_b51) (e2_fa ((cs_b80 hen l).mono (by decide)) (e2_fa ((cs_b81 hen l).mono (by decide)) (e2_fa ((cs_b93 hen l).mono (by decide)) (e2_fa ((cs_b94 hen l).mono (by decide)) (e2_fa ((cs_b95 hen l).mono (by decide)) (e2_fa ((cs_b96 hen l).mono (by decide)) (e2_fa ((cs_b97 hen l).mono (by decide)) (e2_fa ((cs_b100 hen l).mono (by decide)) (e2_fa ((cs_b103 hen l).mono (by decide)) (e2_fa ((cs_b104 hen l).mono (by decide)) (e2_fa ((cs_b105 hen l).mono (by decide)) (e2_fa ((cs_b106 hen l).mono (by decide)) (e2_fa ((cs_b108 hen l).mono (by decide)) (e2_fa ((cs_b110 hen l).mono (by decide)) (e2_fa ((cs_b112 hen l).mono (by decide)) (e2_fa ((cs_b114 hen l).mono (by decide)) (e2_fa ((cs_b188 hen l).mono (by decide)) e2_fz)))))))))))))))))) (e2_fa ein_179 e2_fz) (by decide) co_b189 ex2_196 ck_b189
/-! b190 X10_glyphHere -/
def as_b190 : List ev_V := [(2, 83, 0)]
def E_b190 : e2_E := [(2147483648, 2147583648, 0, 0), (2147483648, 2147483656, 1, 0), (2147483648, 2147485249, 2, 0)]
def bn1178 : e2_Q7 := (bn1163, bn727)
def bn1179 : e2_Q8 := (bn1178, bn729)
noncomputable def f_b190 : ev_H := (bn1179 : e2_Q8)
noncomputable def q_b190_0 : ev_H := (bn1179 : e2_Q8)
noncomputable def rs_b190 : e2_Rs := [((11, 2147483647, 2147483655), q_b190_0)]
noncomputable def s_b190 : e2_Sm := (190, as_b190, E_b190, f_b190, rs_b190)
noncomputable def S_b190 : List e2_Sm := [s_b117]
noncomputable def I_b190 : List e2_In := []
set_option maxRecDepth 1000000 in
theorem ck_b190 : e2_run (e2_cal S_b190 I_b190 4000 0) (e2_fin rs_b190) e2x_190 (fun _ => false) (fun _ _ _ _ _ => false) 4000 (e2_seek e2x_190 0) (e2_al 1 as_b190) [] E_b190 f_b190 = true := by decide +kernel
set_option maxRecDepth 1000000 in
theorem co_b190 : e2_okSB E_b190.length as_b190 f_b190 rs_b190 = true := by decide +kernel
theorem cs_b190 (hen : en_ok) (l : Launch) : e2_smOk l 2 s_b190 := e2_con0 (H := 1) (n := 0) (C := evd_190) (S := S_b190) (I := I_b190) (fuel := 4000) [] hen ei_190 (e2_fa (cs_b117 hen l) e2_fz) e2_fz (by decide) co_b190 ex2_190 ck_b190
/-! b191 X10_readGlyph -/
def as_b191 : List ev_V := [(2, 83, 0)]
def E_b191 : e2_E := [(2147483648, 2147583648, 0, 0), (2147483648, 2147483656, 1, 0), (2147483648, 2147485249, 2, 0)]
def bn1180 : e2_Q8 := (bn1122, bn736)
noncomputable def f_b191 : ev_H := (bn1180 : e2_Q8)
noncomputable def q_b191_0 : ev_H := (bn1173 : e2_Q8)
noncomputable def q_b191_1 : ev_H := (bn1174 : e2_Q8)
noncomputable def q_b191_2 : ev_H := (bn1175 : e2_Q8)
noncomputable def q_b191_3 : ev_H := (bn1176 : e2_Q8)
noncomputable def q_b191_4 : ev_H := (bn1177 : e2_Q8)
noncomputable def rs_b191 : e2_Rs := [((9, 0, 0), q_b191_0), ((9, 0, 0), q_b191_1), ((9, 0, 0), q_b191_2), ((9, 0, 0), q_b191_3), ((9, 0, 0), q_b191_4)]
noncomputable def s_b191 : e2_Sm := (196, as_b191, E_b191, f_b191, rs_b191)
noncomputable def S_b191 : List e2_Sm := [s_b52, s_b53, s_b54, s_b80, s_b81, s_b93, s_b94, s_b95, s_b96, s_b97, s_b103, s_b104, s_b105, s_b106, s_b108, s_b110, s_b112, s_b114, s_b116, s_b190]
noncomputable def I_b191 : List e2_In := [(179, 3, e2x_179)]
set_option maxRecDepth 1000000 in
theorem ck_b191 : e2_run (e2_cal S_b191 I_b191 4000 1) (e2_fin rs_b191) e2x_196 (fun _ => false) (fun _ _ _ _ _ => false) 4000 (e2_seek e2x_196 0) (e2_al 2 as_b191) [] E_b191 f_b191 = true := by decide +kernel
set_option maxRecDepth 1000000 in
theorem co_b191 : e2_okSB E_b191.length as_b191 f_b191 rs_b191 = true := by decide +kernel
theorem cs_b191 (hen : en_ok) (l : Launch) (hh : e2_hand_b l) : e2_smOk l 62 s_b191 := e2_con0 (H := 60) (n := 1) (C := evd_196) (S := S_b191) (I := I_b191) (fuel := 4000) [] hen ei_196 (e2_fa (hh _ hm_b52) (e2_fa (hh _ hm_b53) (e2_fa (hh _ hm_b54) (e2_fa ((cs_b80 hen l).mono (by decide)) (e2_fa ((cs_b81 hen l).mono (by decide)) (e2_fa ((cs_b93 hen l).mono (by decide)) (e2_fa ((cs_b94 hen l).mono (by decide)) (e2_fa ((cs_b95 hen l).mono (by decide)) (e2_fa ((cs_b96 hen l).mono (by decide)) (e2_fa ((cs_b97 hen l).mono (by decide)) (e2_fa ((cs_b103 hen l).mono (by decide)) (e2_fa ((cs_b104 hen l).mono (by decide)) (e2_fa ((cs_b105 hen l).mono (by decide)) (e2_fa ((cs_b106 hen l).mono (by decide)) (e2_fa ((cs_b108 hen l).mono (by decide)) (e2_fa ((cs_b110 hen l).mono (by decide)) (e2_fa ((cs_b112 hen l).mono (by decide)) (e2_fa ((cs_b114 hen l).mono (by decide)) (e2_fa ((cs_b116 hen l).mono (by decide)) (e2_fa ((cs_b190 hen l).mono (by decide)) e2_fz)))))))))))))))))))) (e2_fa ein_179 e2_fz) (by decide) co_b191 ex2_196 ck_b191
/-! b192 X10_readNever -/
def as_b192 : List ev_V := [(2, 83, 0)]
def E_b192 : e2_E := [(2147483648, 2147583648, 0, 0), (2147483648, 2147483656, 1, 0), (2147483648, 2147485249, 2, 0)]
noncomputable def f_b192 : ev_H := (bn1165 : e2_Q8)
def bn1181 : e2_Q8 := (bn1164, bn555)
noncomputable def q_b192_0 : ev_H := (bn1181 : e2_Q8)
noncomputable def rs_b192 : e2_Rs := [((9, 0, 0), q_b192_0)]
noncomputable def s_b192 : e2_Sm := (197, as_b192, E_b192, f_b192, rs_b192)
noncomputable def S_b192 : List e2_Sm := [s_b103, s_b188]
noncomputable def I_b192 : List e2_In := [(174, 1, e2x_174)]
set_option maxRecDepth 1000000 in
theorem ck_b192 : e2_run (e2_cal S_b192 I_b192 4000 1) (e2_fin rs_b192) e2x_197 (fun _ => false) (fun _ _ _ _ _ => false) 4000 (e2_seek e2x_197 0) (e2_al 3 as_b192) [] E_b192 f_b192 = true := by decide +kernel
set_option maxRecDepth 1000000 in
theorem co_b192 : e2_okSB E_b192.length as_b192 f_b192 rs_b192 = true := by decide +kernel
theorem cs_b192 (hen : en_ok) (l : Launch) : e2_smOk l 5 s_b192 := e2_con0 (H := 3) (n := 1) (C := evd_197) (S := S_b192) (I := I_b192) (fuel := 4000) [] hen ei_197 (e2_fa (cs_b103 hen l) (e2_fa ((cs_b188 hen l).mono (by decide)) e2_fz)) (e2_fa ein_174 e2_fz) (by decide) co_b192 ex2_197 ck_b192
/-! b193 X10_readNever -/
def as_b193 : List ev_V := [(2, 83, 0)]
def E_b193 : e2_E := [(2147483648, 2147583648, 0, 0), (2147483648, 2147483656, 1, 0), (2147483648, 2147485249, 2, 0)]
def bn1182 : e2_Q6 := (bn1162, bn739)
def bn1183 : e2_Q7 := (bn1182, bn727)
def bn1184 : e2_Q8 := (bn1183, bn743)
noncomputable def f_b193 : ev_H := (bn1184 : e2_Q8)
def bn1185 : e2_Q8 := (bn1183, bn745)
noncomputable def q_b193_0 : ev_H := (bn1185 : e2_Q8)
def bn1186 : e2_Q8 := (bn1183, bn747)
noncomputable def q_b193_1 : ev_H := (bn1186 : e2_Q8)
def bn1187 : e2_Q8 := (bn1183, bn749)
noncomputable def q_b193_2 : ev_H := (bn1187 : e2_Q8)
def bn1188 : e2_Q8 := (bn1183, bn751)
noncomputable def q_b193_3 : ev_H := (bn1188 : e2_Q8)
noncomputable def rs_b193 : e2_Rs := [((9, 0, 0), q_b193_0), ((9, 0, 0), q_b193_1), ((9, 0, 0), q_b193_2), ((9, 0, 0), q_b193_3)]
noncomputable def s_b193 : e2_Sm := (197, as_b193, E_b193, f_b193, rs_b193)
noncomputable def S_b193 : List e2_Sm := [s_b103, s_b121, s_b122, s_b188, s_b190]
noncomputable def I_b193 : List e2_In := [(173, 3, e2x_173), (174, 1, e2x_174)]
set_option maxRecDepth 1000000 in
theorem ck_b193 : e2_run (e2_cal S_b193 I_b193 4000 1) (e2_fin rs_b193) e2x_197 (fun _ => false) (fun _ _ _ _ _ => false) 4000 (e2_seek e2x_197 0) (e2_al 3 as_b193) [] E_b193 f_b193 = true := by decide +kernel
set_option maxRecDepth 1000000 in
theorem co_b193 : e2_okSB E_b193.length as_b193 f_b193 rs_b193 = true := by decide +kernel
theorem cs_b193 (hen : en_ok) (l : Launch) : e2_smOk l 8 s_b193 := e2_con0 (H := 6) (n := 1) (C := evd_197) (S := S_b193) (I := I_b193) (fuel := 4000) [] hen ei_197 (e2_fa ((cs_b103 hen l).mono (by decide)) (e2_fa (cs_b121 hen l) (e2_fa ((cs_b122 hen l).mono (by decide)) (e2_fa ((cs_b188 hen l).mono (by decide)) (e2_fa ((cs_b190 hen l).mono (by decide)) e2_fz))))) (e2_fa ein_173 (e2_fa ein_174 e2_fz)) (by decide) co_b193 ex2_197 ck_b193
/-! b194 X10_readLine -/
def as_b194 : List ev_V := [(2, 83, 0)]
def E_b194 : e2_E := [(2147483648, 2147583648, 0, 0), (2147483648, 2147483656, 1, 0), (2147483648, 2147485249, 2, 0)]
def bn1189 : e2_Q8 := (bn1143, bn824)
noncomputable def f_b194 : ev_H := (bn1189 : e2_Q8)
noncomputable def q_b194_0 : ev_H := (bn1158 : e2_Q8)
noncomputable def q_b194_1 : ev_H := (bn1157 : e2_Q8)
noncomputable def q_b194_2 : ev_H := (bn1159 : e2_Q8)
noncomputable def q_b194_3 : ev_H := (bn1160 : e2_Q8)
noncomputable def q_b194_4 : ev_H := (bn1148 : e2_Q8)
def bn1190 : e2_Q4 := (bn350, bn1168)
def bn1191 : e2_Q5 := (bn257, bn1190)
def bn1192 : e2_Q6 := (bn1191, bn805)
def bn1193 : e2_Q7 := (bn1192, bn812)
def bn1194 : e2_Q8 := (bn1193, bn856)
noncomputable def q_b194_5 : ev_H := (bn1194 : e2_Q8)
def bn1195 : e2_Q8 := (bn1193, bn859)
noncomputable def q_b194_6 : ev_H := (bn1195 : e2_Q8)
def bn1196 : e2_Q8 := (bn1193, bn862)
noncomputable def q_b194_7 : ev_H := (bn1196 : e2_Q8)
def bn1197 : e2_Q8 := (bn1193, bn865)
noncomputable def q_b194_8 : ev_H := (bn1197 : e2_Q8)
def bn1198 : e2_Q8 := (bn1193, bn849)
noncomputable def q_b194_9 : ev_H := (bn1198 : e2_Q8)
noncomputable def rs_b194 : e2_Rs := [((9, 0, 0), q_b194_0), ((9, 0, 0), q_b194_1), ((9, 0, 0), q_b194_2), ((9, 0, 0), q_b194_3), ((9, 0, 0), q_b194_4), ((9, 0, 0), q_b194_5), ((9, 0, 0), q_b194_6), ((9, 0, 0), q_b194_7), ((9, 0, 0), q_b194_8), ((9, 0, 0), q_b194_9)]
noncomputable def s_b194 : e2_Sm := (187, as_b194, E_b194, f_b194, rs_b194)
noncomputable def S_b194 : List e2_Sm := [s_b74, s_b76, s_b77, s_b78, s_b79, s_b80, s_b81, s_b82, s_b83, s_b84, s_b85, s_b86, s_b98, s_b99, s_b124, s_b125, s_b126, s_b129, s_b189, s_b191, s_b192, s_b193]
noncomputable def I_b194 : List e2_In := [(170, 2, e2x_170), (173, 3, e2x_173), (174, 1, e2x_174), (178, 2, e2x_178), (179, 3, e2x_179), (180, 1, e2x_180), (186, 1, e2x_186)]
set_option maxRecDepth 1000000 in
theorem ck_b194 : e2_run (e2_cal S_b194 I_b194 4000 2) (e2_fin rs_b194) e2x_187 (fun _ => false) (fun _ _ _ _ _ => false) 4000 (e2_seek e2x_187 0) (e2_al 3 as_b194) [] E_b194 f_b194 = true := by decide +kernel
set_option maxRecDepth 1000000 in
theorem co_b194 : e2_okSB E_b194.length as_b194 f_b194 rs_b194 = true := by decide +kernel
theorem cs_b194 (hen : en_ok) (l : Launch) (hh : e2_hand_b l) : e2_smOk l 65 s_b194 := e2_con0 (H := 62) (n := 2) (C := evd_187) (S := S_b194) (I := I_b194) (fuel := 4000) [] hen ei_187 (e2_fa ((cs_b74 hen l).mono (by decide)) (e2_fa ((cs_b76 hen l).mono (by decide)) (e2_fa ((cs_b77 hen l).mono (by decide)) (e2_fa ((cs_b78 hen l).mono (by decide)) (e2_fa ((cs_b79 hen l).mono (by decide)) (e2_fa ((cs_b80 hen l).mono (by decide)) (e2_fa ((cs_b81 hen l).mono (by decide)) (e2_fa ((cs_b82 hen l).mono (by decide)) (e2_fa ((cs_b83 hen l).mono (by decide)) (e2_fa ((cs_b84 hen l).mono (by decide)) (e2_fa ((cs_b85 hen l).mono (by decide)) (e2_fa ((cs_b86 hen l).mono (by decide)) (e2_fa ((cs_b98 hen l).mono (by decide)) (e2_fa ((cs_b99 hen l).mono (by decide)) (e2_fa ((cs_b124 hen l hh).mono (by decide)) (e2_fa ((cs_b125 hen l hh).mono (by decide)) (e2_fa ((cs_b126 hen l).mono (by decide)) (e2_fa ((cs_b129 hen l).mono (by decide)) (e2_fa (cs_b189 hen l hh) (e2_fa (cs_b191 hen l hh) (e2_fa ((cs_b192 hen l).mono (by decide)) (e2_fa ((cs_b193 hen l).mono (by decide)) e2_fz)))))))))))))))))))))) (e2_fa ein_170 (e2_fa ein_173 (e2_fa ein_174 (e2_fa ein_178 (e2_fa ein_179 (e2_fa ein_180 (e2_fa ein_186 e2_fz))))))) (by decide) co_b194 ex2_187 ck_b194
