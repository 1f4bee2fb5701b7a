/-! CONTRACTS b, printed by a program -/
/-! b131 X10_thingHere -/
def as_b131 : List ev_V := [(2, 83, 0)]
def E_b131 : e2_E := [(2147483648, 2147583648, 0, 0), (2147483648, 2147483656, 1, 0), (2147483648, 2147485249, 2, 0)]
def bn868 : e2_Q5 := (bn443, bn249)
def bn869 : e2_Q6 := (bn465, bn868)
def bn870 : e2_Q7 := (bn339, bn869)
def bn871 : e2_Q8 := (bn336, bn870)
noncomputable def f_b131 : ev_H := (bn871 : e2_Q8)
noncomputable def q_b131_0 : ev_H := (bn871 : e2_Q8)
noncomputable def rs_b131 : e2_Rs := [((0, 4294967295, 0), q_b131_0)]
noncomputable def s_b131 : e2_Sm := (189, as_b131, E_b131, f_b131, rs_b131)
noncomputable def S_b131 : List e2_Sm := [s_b107]
noncomputable def I_b131 : List e2_In := []
set_option maxRecDepth 1000000 in
theorem ck_b131 : e2_run (e2_cal S_b131 I_b131 4000 0) (e2_fin rs_b131) e2x_189 (fun _ => false) (fun _ _ _ _ _ => false) 4000 (e2_seek e2x_189 0) (e2_al 1 as_b131) [] E_b131 f_b131 = true := by decide +kernel
set_option maxRecDepth 1000000 in
theorem co_b131 : e2_okSB E_b131.length as_b131 f_b131 rs_b131 = true := by decide +kernel
theorem cs_b131 (hen : en_ok) (l : Launch) : e2_smOk l 2 s_b131 := e2_con0 (H := 1) (n := 0) (C := evd_189) (S := S_b131) (I := I_b131) (fuel := 4000) [] hen ei_189 (e2_fa (cs_b107 hen l) e2_fz) e2_fz (by decide) co_b131 ex2_189 ck_b131
/-! b132 X10_thingHere -/
def as_b132 : List ev_V := [(2, 83, 0)]
def E_b132 : e2_E := [(2147483648, 2147583648, 0, 0), (2147483648, 2147483656, 1, 0), (2147483648, 2147485249, 2, 0)]
def bn872 : e2_Q6 := (bn457, bn868)
def bn873 : e2_Q7 := (bn660, bn872)
def bn874 : e2_Q8 := (bn336, bn873)
noncomputable def f_b132 : ev_H := (bn874 : e2_Q8)
noncomputable def q_b132_0 : ev_H := (bn874 : e2_Q8)
noncomputable def rs_b132 : e2_Rs := [((11, 2147483647, 2147483651), q_b132_0)]
noncomputable def s_b132 : e2_Sm := (189, as_b132, E_b132, f_b132, rs_b132)
noncomputable def S_b132 : List e2_Sm := [s_b109]
noncomputable def I_b132 : List e2_In := []
set_option maxRecDepth 1000000 in
theorem ck_b132 : e2_run (e2_cal S_b132 I_b132 4000 0) (e2_fin rs_b132) e2x_189 (fun _ => false) (fun _ _ _ _ _ => false) 4000 (e2_seek e2x_189 0) (e2_al 1 as_b132) [] E_b132 f_b132 = true := by decide +kernel
set_option maxRecDepth 1000000 in
theorem co_b132 : e2_okSB E_b132.length as_b132 f_b132 rs_b132 = true := by decide +kernel
theorem cs_b132 (hen : en_ok) (l : Launch) : e2_smOk l 2 s_b132 := e2_con0 (H := 1) (n := 0) (C := evd_189) (S := S_b132) (I := I_b132) (fuel := 4000) [] hen ei_189 (e2_fa (cs_b109 hen l) e2_fz) e2_fz (by decide) co_b132 ex2_189 ck_b132
/-! b133 X10_thingHere -/
def as_b133 : List ev_V := [(2, 83, 0)]
def E_b133 : e2_E := [(2147483648, 2147583648, 0, 0), (2147483648, 2147483656, 1, 0), (2147483648, 2147485249, 2, 0)]
def bn875 : e2_Q6 := (bn591, bn868)
def bn876 : e2_Q7 := (bn660, bn875)
def bn877 : e2_Q8 := (bn336, bn876)
noncomputable def f_b133 : ev_H := (bn877 : e2_Q8)
noncomputable def q_b133_0 : ev_H := (bn877 : e2_Q8)
noncomputable def rs_b133 : e2_Rs := [((11, 2147483647, 2147483651), q_b133_0)]
noncomputable def s_b133 : e2_Sm := (189, as_b133, E_b133, f_b133, rs_b133)
noncomputable def S_b133 : List e2_Sm := [s_b111]
noncomputable def I_b133 : List e2_In := []
set_option maxRecDepth 1000000 in
theorem ck_b133 : e2_run (e2_cal S_b133 I_b133 4000 0) (e2_fin rs_b133) e2x_189 (fun _ => false) (fun _ _ _ _ _ => false) 4000 (e2_seek e2x_189 0) (e2_al 1 as_b133) [] E_b133 f_b133 = true := by decide +kernel
set_option maxRecDepth 1000000 in
theorem co_b133 : e2_okSB E_b133.length as_b133 f_b133 rs_b133 = true := by decide +kernel
theorem cs_b133 (hen : en_ok) (l : Launch) : e2_smOk l 2 s_b133 := e2_con0 (H := 1) (n := 0) (C := evd_189) (S := S_b133) (I := I_b133) (fuel := 4000) [] hen ei_189 (e2_fa (cs_b111 hen l) e2_fz) e2_fz (by decide) co_b133 ex2_189 ck_b133
/-! b134 X10_thingHere -/
def as_b134 : List ev_V := [(2, 83, 0)]
def E_b134 : e2_E := [(2147483648, 2147583648, 0, 0), (2147483648, 2147483656, 1, 0), (2147483648, 2147485249, 2, 0)]
def bn878 : e2_Q6 := (bn583, bn868)
def bn879 : e2_Q7 := (bn660, bn878)
def bn880 : e2_Q8 := (bn336, bn879)
noncomputable def f_b134 : ev_H := (bn880 : e2_Q8)
noncomputable def q_b134_0 : ev_H := (bn880 : e2_Q8)
noncomputable def q_b134_1 : ev_H := (bn877 : e2_Q8)
noncomputable def rs_b134 : e2_Rs := [((0, 4294967295, 0), q_b134_0), ((11, 2147483648, 2147483651), q_b134_1)]
noncomputable def s_b134 : e2_Sm := (189, as_b134, E_b134, f_b134, rs_b134)
noncomputable def S_b134 : List e2_Sm := [s_b113]
noncomputable def I_b134 : List e2_In := []
set_option maxRecDepth 1000000 in
theorem ck_b134 : e2_run (e2_cal S_b134 I_b134 4000 0) (e2_fin rs_b134) e2x_189 (fun _ => false) (fun _ _ _ _ _ => false) 4000 (e2_seek e2x_189 0) (e2_al 1 as_b134) [] E_b134 f_b134 = true := by decide +kernel
set_option maxRecDepth 1000000 in
theorem co_b134 : e2_okSB E_b134.length as_b134 f_b134 rs_b134 = true := by decide +kernel
theorem cs_b134 (hen : en_ok) (l : Launch) : e2_smOk l 2 s_b134 := e2_con0 (H := 1) (n := 0) (C := evd_189) (S := S_b134) (I := I_b134) (fuel := 4000) [] hen ei_189 (e2_fa (cs_b113 hen l) e2_fz) e2_fz (by decide) co_b134 ex2_189 ck_b134
/-! b135 X10_readGlyph -/
def as_b135 : List ev_V := [(2, 83, 0)]
def E_b135 : e2_E := [(2147483648, 2147583648, 0, 0), (2147483648, 2147483656, 1, 0), (2147483648, 2147485249, 2, 0)]
def bn881 : e2_Q6 := (bn694, bn868)
def bn882 : e2_Q7 := (bn690, bn881)
def bn883 : e2_Q8 := (bn688, bn882)
noncomputable def f_b135 : ev_H := (bn883 : e2_Q8)
def bn884 : e2_Q6 := (bn706, bn868)
def bn885 : e2_Q7 := (bn690, bn884)
def bn886 : e2_Q8 := (bn704, bn885)
noncomputable def q_b135_0 : ev_H := (bn886 : e2_Q8)
def bn887 : e2_Q6 := (bn711, bn868)
def bn888 : e2_Q7 := (bn690, bn887)
def bn889 : e2_Q8 := (bn704, bn888)
noncomputable def q_b135_1 : ev_H := (bn889 : e2_Q8)
def bn890 : e2_Q6 := (bn716, bn868)
def bn891 : e2_Q7 := (bn690, bn890)
def bn892 : e2_Q8 := (bn704, bn891)
noncomputable def q_b135_2 : ev_H := (bn892 : e2_Q8)
def bn893 : e2_Q6 := (bn721, bn868)
def bn894 : e2_Q7 := (bn690, bn893)
def bn895 : e2_Q8 := (bn704, bn894)
noncomputable def q_b135_3 : ev_H := (bn895 : e2_Q8)
def bn896 : e2_Q8 := (bn704, bn882)
noncomputable def q_b135_4 : ev_H := (bn896 : e2_Q8)
noncomputable def rs_b135 : e2_Rs := [((9, 0, 0), q_b135_0), ((9, 0, 0), q_b135_1), ((9, 0, 0), q_b135_2), ((9, 0, 0), q_b135_3), ((9, 0, 0), q_b135_4)]
noncomputable def s_b135 : e2_Sm := (196, as_b135, E_b135, f_b135, rs_b135)
noncomputable def S_b135 : List e2_Sm := [s_b7, s_b80, s_b81, s_b93, s_b94, s_b95, s_b96, s_b97, s_b100, s_b102, s_b103, s_b104, s_b105, s_b106, s_b131, s_b132, s_b133, s_b134]
noncomputable def I_b135 : List e2_In := [(179, 3, e2x_179)]
set_option maxRecDepth 1000000 in
theorem ck_b135 : e2_run (e2_cal S_b135 I_b135 4000 1) (e2_fin rs_b135) e2x_196 (fun _ => false) (fun _ _ _ _ _ => false) 4000 (e2_seek e2x_196 0) (e2_al 2 as_b135) [] E_b135 f_b135 = true := by decide +kernel
set_option maxRecDepth 1000000 in
theorem co_b135 : e2_okSB E_b135.length as_b135 f_b135 rs_b135 = true := by decide +kernel
theorem cs_b135 (hen : en_ok) (l : Launch) (hh : e2_hand_b l) : e2_smOk l 62 s_b135 := e2_con0 (H := 60) (n := 1) (C := evd_196) (S := S_b135) (I := I_b135) (fuel := 4000) [] hen ei_196 (e2_fa (hh _ hm_b7) (e2_fa ((cs_b80 hen l).mono (by decide)) (e2_fa ((cs_b81 hen l).mono (by decide)) (e2_fa ((cs_b93 hen l).mono (by decide)) (e2_fa ((cs_b94 hen l).mono (by decide)) (e2_fa ((cs_b95 hen l).mono (by decide)) (e2_fa ((cs_b96 hen l).mono (by decide)) (e2_fa ((cs_b97 hen l).mono (by decide)) (e2_fa ((cs_b100 hen l).mono (by decide)) (e2_fa ((cs_b102 hen l).mono (by decide)) (e2_fa ((cs_b103 hen l).mono (by decide)) (e2_fa ((cs_b104 hen l).mono (by decide)) (e2_fa ((cs_b105 hen l).mono (by decide)) (e2_fa ((cs_b106 hen l).mono (by decide)) (e2_fa ((cs_b131 hen l).mono (by decide)) (e2_fa ((cs_b132 hen l).mono (by decide)) (e2_fa ((cs_b133 hen l).mono (by decide)) (e2_fa ((cs_b134 hen l).mono (by decide)) e2_fz)))))))))))))))))) (e2_fa ein_179 e2_fz) (by decide) co_b135 ex2_196 ck_b135
/-! b136 X10_readGlyph -/
def as_b136 : List ev_V := [(2, 83, 0)]
def E_b136 : e2_E := [(2147483648, 2147583648, 0, 0), (2147483648, 2147483656, 1, 0), (2147483648, 2147485249, 2, 0)]
def bn897 : e2_Q6 := (bn734, bn868)
def bn898 : e2_Q7 := (bn690, bn897)
def bn899 : e2_Q8 := (bn688, bn898)
noncomputable def f_b136 : ev_H := (bn899 : e2_Q8)
noncomputable def q_b136_0 : ev_H := (bn886 : e2_Q8)
noncomputable def q_b136_1 : ev_H := (bn889 : e2_Q8)
noncomputable def q_b136_2 : ev_H := (bn892 : e2_Q8)
noncomputable def q_b136_3 : ev_H := (bn895 : e2_Q8)
noncomputable def q_b136_4 : ev_H := (bn896 : e2_Q8)
noncomputable def rs_b136 : e2_Rs := [((9, 0, 0), q_b136_0), ((9, 0, 0), q_b136_1), ((9, 0, 0), q_b136_2), ((9, 0, 0), q_b136_3), ((9, 0, 0), q_b136_4)]
noncomputable def s_b136 : e2_Sm := (196, as_b136, E_b136, f_b136, rs_b136)
noncomputable def S_b136 : List e2_Sm := [s_b8, s_b9, s_b10, s_b80, s_b81, s_b93, s_b94, s_b95, s_b96, s_b97, s_b103, s_b104, s_b105, s_b106, s_b116, s_b118, s_b131, s_b132, s_b133, s_b134]
noncomputable def I_b136 : List e2_In := [(179, 3, e2x_179)]
set_option maxRecDepth 1000000 in
theorem ck_b136 : e2_run (e2_cal S_b136 I_b136 4000 1) (e2_fin rs_b136) e2x_196 (fun _ => false) (fun _ _ _ _ _ => false) 4000 (e2_seek e2x_196 0) (e2_al 2 as_b136) [] E_b136 f_b136 = true := by decide +kernel
set_option maxRecDepth 1000000 in
theorem co_b136 : e2_okSB E_b136.length as_b136 f_b136 rs_b136 = true := by decide +kernel
theorem cs_b136 (hen : en_ok) (l : Launch) (hh : e2_hand_b l) : e2_smOk l 62 s_b136 := e2_con0 (H := 60) (n := 1) (C := evd_196) (S := S_b136) (I := I_b136) (fuel := 4000) [] hen ei_196 (e2_fa (hh _ hm_b8) (e2_fa (hh _ hm_b9) (e2_fa (hh _ hm_b10) (e2_fa ((cs_b80 hen l).mono (by decide)) (e2_fa ((cs_b81 hen l).mono (by decide)) (e2_fa ((cs_b93 hen l).mono (by decide)) (e2_fa ((cs_b94 hen l).mono (by decide)) (e2_fa ((cs_b95 hen l).mono (by decide)) (e2_fa ((cs_b96 hen l).mono (by decide)) (e2_fa ((cs_b97 hen l).mono (by decide)) (e2_fa ((cs_b103 hen l).mono (by decide)) (e2_fa ((cs_b104 hen l).mono (by decide)) (e2_fa ((cs_b105 hen l).mono (by decide)) (e2_fa ((cs_b106 hen l).mono (by decide)) (e2_fa ((cs_b116 hen l).mono (by decide)) (e2_fa ((cs_b118 hen l).mono (by decide)) (e2_fa ((cs_b131 hen l).mono (by decide)) (e2_fa ((cs_b132 hen l).mono (by decide)) (e2_fa ((cs_b133 hen l).mono (by decide)) (e2_fa ((cs_b134 hen l).mono (by decide)) e2_fz)))))))))))))))))))) (e2_fa ein_179 e2_fz) (by decide) co_b136 ex2_196 ck_b136
/-! b137 X10_readLine -/
def as_b137 : List ev_V := [(2, 83, 0)]
def E_b137 : e2_E := [(2147483648, 2147583648, 0, 0), (2147483648, 2147483656, 1, 0), (2147483648, 2147485249, 2, 0)]
def bn900 : e2_Q6 := (bn821, bn831)
def bn901 : e2_Q7 := (bn818, bn900)
def bn902 : e2_Q8 := (bn829, bn901)
noncomputable def f_b137 : ev_H := (bn902 : e2_Q8)
noncomputable def q_b137_0 : ev_H := (bn834 : e2_Q8)
noncomputable def q_b137_1 : ev_H := (bn838 : e2_Q8)
noncomputable def q_b137_2 : ev_H := (bn842 : e2_Q8)
noncomputable def q_b137_3 : ev_H := (bn846 : e2_Q8)
def bn903 : e2_Q6 := (bn847, bn831)
def bn904 : e2_Q7 := (bn818, bn903)
def bn905 : e2_Q8 := (bn829, bn904)
noncomputable def q_b137_4 : ev_H := (bn905 : e2_Q8)
def bn906 : e2_Q7 := (bn853, bn828)
def bn907 : e2_Q8 := (bn906, bn837)
noncomputable def q_b137_5 : ev_H := (bn907 : e2_Q8)
def bn908 : e2_Q8 := (bn906, bn833)
noncomputable def q_b137_6 : ev_H := (bn908 : e2_Q8)
def bn909 : e2_Q8 := (bn906, bn841)
noncomputable def q_b137_7 : ev_H := (bn909 : e2_Q8)
def bn910 : e2_Q8 := (bn906, bn845)
noncomputable def q_b137_8 : ev_H := (bn910 : e2_Q8)
def bn911 : e2_Q8 := (bn906, bn904)
noncomputable def q_b137_9 : ev_H := (bn911 : e2_Q8)
noncomputable def rs_b137 : e2_Rs := [((9, 0, 0), q_b137_0), ((9, 0, 0), q_b137_1), ((9, 0, 0), q_b137_2), ((9, 0, 0), q_b137_3), ((9, 0, 0), q_b137_4), ((9, 0, 0), q_b137_5), ((9, 0, 0), q_b137_6), ((9, 0, 0), q_b137_7), ((9, 0, 0), q_b137_8), ((9, 0, 0), q_b137_9)]
noncomputable def s_b137 : e2_Sm := (187, as_b137, E_b137, f_b137, rs_b137)
noncomputable def S_b137 : List e2_Sm := [s_b74, s_b76, s_b77, s_b78, s_b79, s_b80, s_b81, s_b82, s_b83, s_b84, s_b85, s_b86, s_b98, s_b99, s_b120, s_b123, s_b124, s_b125, s_b126, s_b129, s_b135, s_b136]
noncomputable def I_b137 : List e2_In := [(170, 2, e2x_170), (173, 3, e2x_173), (174, 1, e2x_174), (178, 2, e2x_178), (179, 3, e2x_179), (180, 1, e2x_180), (186, 1, e2x_186)]
set_option maxRecDepth 1000000 in
theorem ck_b137 : e2_run (e2_cal S_b137 I_b137 4000 2) (e2_fin rs_b137) e2x_187 (fun _ => false) (fun _ _ _ _ _ => false) 4000 (e2_seek e2x_187 0) (e2_al 3 as_b137) [] E_b137 f_b137 = true := by decide +kernel
set_option maxRecDepth 1000000 in
theorem co_b137 : e2_okSB E_b137.length as_b137 f_b137 rs_b137 = true := by decide +kernel
theorem cs_b137 (hen : en_ok) (l : Launch) (hh : e2_hand_b l) : e2_smOk l 65 s_b137 := e2_con0 (H := 62) (n := 2) (C := evd_187) (S := S_b137) (I := I_b137) (fuel := 4000) [] hen ei_187 (e2_fa ((cs_b74 hen l).mono (by decide)) (e2_fa ((cs_b76 hen l).mono (by decide)) (e2_fa ((cs_b77 hen l).mono (by decide)) (e2_fa ((cs_b78 hen l).mono (by decide)) (e2_fa ((cs_b79 hen l).mono (by decide)) (e2_fa ((cs_b80 hen l).mono (by decide)) (e2_fa ((cs_b81 hen l).mono (by decide)) (e2_fa ((cs_b82 hen l).mono (by decide)) (e2_fa ((cs_b83 hen l).mono (by decide)) (e2_fa ((cs_b84 hen l).mono (by decide)) (e2_fa ((cs_b85 hen l).mono (by decide)) (e2_fa ((cs_b86 hen l).mono (by decide)) (e2_fa ((cs_b98 hen l).mono (by decide)) (e2_fa ((cs_b99 hen l).mono (by decide)) (e2_fa ((cs_b120 hen l).mono (by decide)) (e2_fa ((cs_b123 hen l).mono (by decide)) (e2_fa ((cs_b124 hen l hh).mono (by decide)) (e2_fa ((cs_b125 hen l hh).mono (by decide)) (e2_fa ((cs_b126 hen l).mono (by decide)) (e2_fa ((cs_b129 hen l).mono (by decide)) (e2_fa (cs_b135 hen l hh) (e2_fa (cs_b136 hen l hh) e2_fz)))))))))))))))))))))) (e2_fa ein_170 (e2_fa ein_173 (e2_fa ein_174 (e2_fa ein_178 (e2_fa ein_179 (e2_fa ein_180 (e2_fa ein_186 e2_fz))))))) (by decide) co_b137 ex2_187 ck_b137
/-! b138 X10_glyphHere -/
def as_b138 : List ev_V := [(2, 83, 0)]
def E_b138 : e2_E := [(2147483648, 2147583648, 0, 0), (2147483648, 2147483656, 1, 0), (2147483648, 2147485249, 2, 0)]
def bn912 : e2_Q5 := (bn14, bn701)
def bn913 : e2_Q6 := (bn912, bn334)
def bn914 : e2_Q7 := (bn913, bn273)
def bn915 : e2_Q8 := (bn914, bn573)
noncomputable def f_b138 : ev_H := (bn915 : e2_Q8)
noncomputable def q_b138_0 : ev_H := (bn915 : e2_Q8)
noncomputable def rs_b138 : e2_Rs := [((0, 4294967295, 0), q_b138_0)]
noncomputable def s_b138 : e2_Sm := (190, as_b138, E_b138, f_b138, rs_b138)
noncomputable def S_b138 : List e2_Sm := [s_b101]
noncomputable def I_b138 : List e2_In := []
set_option maxRecDepth 1000000 in
theorem ck_b138 : e2_run (e2_cal S_b138 I_b138 4000 0) (e2_fin rs_b138) e2x_190 (fun _ => false) (fun _ _ _ _ _ => false) 4000 (e2_seek e2x_190 0) (e2_al 1 as_b138) [] E_b138 f_b138 = true := by decide +kernel
set_option maxRecDepth 1000000 in
theorem co_b138 : e2_okSB E_b138.length as_b138 f_b138 rs_b138 = true := by decide +kernel
theorem cs_b138 (hen : en_ok) (l : Launch) : e2_smOk l 2 s_b138 := e2_con0 (H := 1) (n := 0) (C := evd_190) (S := S_b138) (I := I_b138) (fuel := 4000) [] hen ei_190 (e2_fa (cs_b101 hen l) e2_fz) e2_fz (by decide) co_b138 ex2_190 ck_b138
/-! b139 X10_readGlyph -/
def as_b139 : List ev_V := [(2, 83, 0)]
def E_b139 : e2_E := [(2147483648, 2147583648, 0, 0), (2147483648, 2147483656, 1, 0), (2147483648, 2147485249, 2, 0)]
noncomputable def f_b139 : ev_H := (bn725 : e2_Q8)
def bc185 : ev_C := (50, [(1, 1, 4294967296), (0, 2, 0)])
def bn916 : e2_Q1 := (bc185, bc3)
def bn917 : e2_Q2 := (bn22, bn916)
def bn918 : e2_Q3 := (bn917, bn27)
def bn919 : e2_Q4 := (bn21, bn918)
def bn920 : e2_Q5 := (bn257, bn919)
def bn921 : e2_Q6 := (bn920, bn266)
def bn922 : e2_Q7 := (bn921, bn687)
def bn923 : e2_Q8 := (bn922, bn708)
noncomputable def q_b139_0 : ev_H := (bn923 : e2_Q8)
def bn924 : e2_Q8 := (bn922, bn713)
noncomputable def q_b139_1 : ev_H := (bn924 : e2_Q8)
def bn925 : e2_Q8 := (bn922, bn718)
noncomputable def q_b139_2 : ev_H := (bn925 : e2_Q8)
def bn926 : e2_Q8 := (bn922, bn723)
noncomputable def q_b139_3 : ev_H := (bn926 : e2_Q8)
def bn927 : e2_Q8 := (bn922, bn696)
noncomputable def q_b139_4 : ev_H := (bn927 : e2_Q8)
noncomputable def rs_b139 : e2_Rs := [((9, 0, 0), q_b139_0), ((9, 0, 0), q_b139_1), ((9, 0, 0), q_b139_2), ((9, 0, 0), q_b139_3), ((9, 0, 0), q_b139_4)]
noncomputable def s_b139 : e2_Sm := (196, as_b139, E_b139, f_b139, rs_b139)
noncomputable def S_b139 : List e2_Sm := [s_b11, s_b80, s_b81, s_b93, s_b94, s_b95, s_b96, s_b97, s_b100, s_b103, s_b104, s_b105, s_b106, s_b108, s_b110, s_b112, s_b114, s_b138]
noncomputable def I_b139 : List e2_In := [(179, 3, e2x_179)]
set_option maxRecDepth 1000000 in
theorem ck_b139 : e2_run (e2_cal S_b139 I_b139 4000 1) (e2_fin rs_b139) e2x_196 (fun _ => false) (fun _ _ _ _ _ => false) 4000 (e2_seek e2x_196 0) (e2_al 2 as_b139) [] E_b139 f_b139 = true := by decide +kernel
set_option maxRecDepth 1000000 in
theorem co_b139 : e2_okSB E_b139.length as_b139 f_b139 rs_b139 = true := by decide +kernel
theorem cs_b139 (hen : en_ok) (l : Launch) (hh : e2_hand_b l) : e2_smOk l 62 s_b139 := e2_con0 (H := 60) (n := 1) (C := evd_196) (S := S_b139) (I := I_b139) (fuel := 4000) [] hen ei_196 (e2_fa (hh _ hm_b11) (e2_fa ((cs_b80 hen l).mono (by decide)) (e2_fa ((cs_b81 hen l).mono (by decide)) (e2_fa ((cs_b93 hen l).mono (by decide)) (e2_fa ((cs_b94 hen l).mono (by decide)) (e2_fa ((cs_b95 hen l).mono (by decide)) (e2_fa ((cs_b96 hen l).mono (by decide)) (e2_fa ((cs_b97 hen l).mono (by decide)) (e2_fa ((cs_b100 hen l).mono (by decide)) (e2_fa ((cs_b103 hen l).mono (by decide)) (e2_fa ((cs_b104 hen l).mono (by decide)) (e2_fa ((cs_b105 hen l).mono (by decide)) (e2_fa ((cs_b106 hen l).mono (by decide)) (e2_fa ((cs_b108 hen l).mono (by decide)) (e2_fa ((cs_b110 hen l).mono (by decide)) (e2_fa ((cs_b112 hen l).mono (by decide)) (e2_fa ((cs_b114 hen l).mono (by decide)) (e2_fa ((cs_b138 hen l).mono (by decide)) e2_fz)))))))))))))))))) (e2_fa ein_179 e2_fz) (by decide) co_b139 ex2_196 ck_b139
/-! b140 X10_glyphHere -/
def as_b140 : List ev_V := [(2, 83, 0)]
def E_b140 : e2_E := [(2147483648, 2147583648, 0, 0), (2147483648, 2147483656, 1, 0), (2147483648, 2147485249, 2, 0)]
def bn928 : e2_Q7 := (bn913, bn727)
def bn929 : e2_Q8 := (bn928, bn729)
noncomputable def f_b140 : ev_H := (bn929 : e2_Q8)
noncomputable def q_b140_0 : ev_H := (bn929 : e2_Q8)
noncomputable def rs_b140 : e2_Rs := [((11, 2147483647, 2147483655), q_b140_0)]
noncomputable def s_b140 : e2_Sm := (190, as_b140, E_b140, f_b140, rs_b140)
noncomputable def S_b140 : List e2_Sm := [s_b117]
noncomputable def I_b140 : List e2_In := []
set_option maxRecDepth 1000000 in
theorem ck_b140 : e2_run (e2_cal S_b140 I_b140 4000 0) (e2_fin rs_b140) e2x_190 (fun _ => false) (fun _ _ _ _ _ => false) 4000 (e2_seek e2x_190 0) (e2_al 1 as_b140) [] E_b140 f_b140 = true := by decide +kernel
set_option maxRecDepth 1000000 in
theorem co_b140 : e2_okSB E_b140.length as_b140 f_b140 rs_b140 = true := by decide +kernel
theorem cs_b140 (hen : en_ok) (l : Launch) : e2_smOk l 2 s_b140 := e2_con0 (H := 1) (n := 0) (C := evd_190) (S := S_b140) (I := I_b140) (fuel := 4000) [] hen ei_190 (e2_fa (cs_b117 hen l) e2_fz) e2_fz (by decide) co_b140 ex2_190 ck_b140
/-! b141 X10_readGlyph -/
def as_b141 : List ev_V := [(2, 83, 0)]
def E_b141 : e2_E := [(2147483648, 2147583648, 0, 0), (2147483648, 2147483656, 1, 0), (2147483648, 2147485249, 2, 0)]
def bn930 : e2_Q8 := (bn704, bn736)
noncomputable def f_b141 : ev_H := (bn930 : e2_Q8)
noncomputable def q_b141_0 : ev_H := (bn923 : e2_Q8)
noncomputable def q_b141_1 : ev_H := (bn924 : e2_Q8)
noncomputable def q_b141_2 : ev_H := (bn925 : e2_Q8)
noncomputable def q_b141_3 : ev_H := (bn926 : e2_Q8)
noncomputable def q_b141_4 : ev_H := (bn927 : e2_Q8)
noncomputable def rs_b141 : e2_Rs := [((9, 0, 0), q_b141_0), ((9, 0, 0), q_b141_1), ((9, 0, 0), q_b141_2), ((9, 0, 0), q_b141_3), ((9, 0, 0), q_b141_4)]
noncomputable def s_b141 : e2_Sm := (196, as_b141, E_b141, f_b141, rs_b141)
noncomputable def S_b141 : List e2_Sm := [s_b12, s_b13, s_b14, s_b80, s_b81, s_b93, s_b94, s_b95, s_b96, s_b97, s_b103, s_b104, s_b105, s_b106, s_b108, s_b110, s_b112, s_b114, s_b116, s_b140]
noncomputable def I_b141 : List e2_In := [(179, 3, e2x_179)]
set_option maxRecDepth 1000000 in
theorem ck_b141 : e2_run (e2_cal S_b141 I_b141 4000 1) (e2_fin rs_b141) e2x_196 (fun _ => false) (fun _ _ _ _ _ => false) 4000 (e2_seek e2x_196 0) (e2_al 2 as_b141) [] E_b141 f_b141 = true := by decide +kernel
set_option maxRecDepth 1000000 in
theorem co_b141 : e2_okSB E_b141.length as_b141 f_b141 rs_b141 = true := by decide +kernel
theorem cs_b141 (hen : en_ok) (l : Launch) (hh : e2_hand_b l) : e2_smOk l 62 s_b141 := e2_con0 (H := 60) (n := 1) (C := evd_196) (S := S_b141) (I := I_b141) (fuel := 4000) [] hen ei_196 (e2_fa (hh _ hm_b12) (e2_fa (hh _ hm_b13) (e2_fa (hh _ hm_b14) (e2_fa ((cs_b80 hen l).mono (by decide)) (e2_fa ((cs_b81 hen l).mono (by decide)) (e2_fa ((cs_b93 hen l).mono (by decide)) (e2_fa ((cs_b94 hen l).mono (by decide)) (e2_fa ((cs_b95 hen l).mono (by decide)) (e2_fa ((cs_b96 hen l).mono (by decide)) (e2_fa ((cs_b97 hen l).mono (by decide)) (e2_fa ((cs_b103 hen l).mono (by decide)) (e2_fa ((cs_b104 hen l).mono (by decide)) (e2_fa ((cs_b105 hen l).mono (by decide)) (e2_fa ((cs_b106 hen l).mono (by decide)) (e2_fa ((cs_b108 hen l).mono (by decide)) (e2_fa ((cs_b110 hen l).mono (by decide)) (e2_fa ((cs_b112 hen l).mono (by decide)) (e2_fa ((cs_b114 hen l).mono (by decide)) (e2_fa ((cs_b116 hen l).mono (by decide)) (e2_fa ((cs_b140 hen l).mono (by decide)) e2_fz)))))))))))))))))))) (e2_fa ein_179 e2_fz) (by decide) co_b141 ex2_196 ck_b141
/-! b142 X10_readNever -/
def as_b142 : List ev_V := [(2, 83, 0)]
def E_b142 : e2_E := [(2147483648, 2147583648, 0, 0), (2147483648, 2147483656, 1, 0), (2147483648, 2147485249, 2, 0)]
noncomputable def f_b142 : ev_H := (bn915 : e2_Q8)
def bn931 : e2_Q8 := (bn914, bn555)
noncomputable def q_b142_0 : ev_H := (bn931 : e2_Q8)
noncomputable def rs_b142 : e2_Rs := [((9, 0, 0), q_b142_0)]
noncomputable def s_b142 : e2_Sm := (197, as_b142, E_b142, f_b142, rs_b142)
noncomputable def S_b142 : List e2_Sm := [s_b103, s_b138]
noncomputable def I_b142 : List e2_In := [(174, 1, e2x_174)]
set_option maxRecDepth 1000000 in
theorem ck_b142 : e2_run (e2_cal S_b142 I_b142 4000 1) (e2_fin rs_b142) e2x_197 (fun _ => false) (fun _ _ _ _ _ => false) 4000 (e2_seek e2x_197 0) (e2_al 3 as_b142) [] E_b142 f_b142 = true := by decide +kernel
set_option maxRecDepth 1000000 in
theorem co_b142 : e2_okSB E_b142.length as_b142 f_b142 rs_b142 = true := by decide +kernel
theorem cs_b142 (hen : en_ok) (l : Launch) : e2_smOk l 5 s_b142 := e2_con0 (H := 3) (n := 1) (C := evd_197) (S := S_b142) (I := I_b142) (fuel := 4000) [] hen ei_197 (e2_fa (cs_b103 hen l) (e2_fa ((cs_b138 hen l).mono (by decide)) e2_fz)) (e2_fa ein_174 e2_fz) (by decide) co_b142 ex2_197 ck_b142
/-! b143 X10_readNever -/
def as_b143 : List ev_V := [(2, 83, 0)]
def E_b143 : e2_E := [(2147483648, 2147583648, 0, 0), (2147483648, 2147483656, 1, 0), (2147483648, 2147485249, 2, 0)]
def bn932 : e2_Q6 := (bn912, bn739)
def bn933 : e2_Q7 := (bn932, bn727)
def bn934 : e2_Q8 := (bn933, bn743)
noncomputable def f_b143 : ev_H := (bn934 : e2_Q8)
def bn935 : e2_Q8 := (bn933, bn745)
noncomputable def q_b143_0 : ev_H := (bn935 : e2_Q8)
def bn936 : e2_Q8 := (bn933, bn747)
noncomputable def q_b143_1 : ev_H := (bn936 : e2_Q8)
def bn937 : e2_Q8 := (bn933, bn749)
noncomputable def q_b143_2 : ev_H := (bn937 : e2_Q8)
def bn938 : e2_Q8 := (bn933, bn751)
noncomputable def q_b143_3 : ev_H := (bn938 : e2_Q8)
noncomputable def rs_b143 : e2_Rs := [((9, 0, 0), q_b143_0), ((9, 0, 0), q_b143_1), ((9, 0, 0), q_b143_2), ((9, 0, 0), q_b143_3)]
noncomputable def s_b143 : e2_Sm := (197, as_b143, E_b143, f_b143, rs_b143)
noncomputable def S_b143 : List e2_Sm := [s_b103, s_b121, s_b122, s_b138, s_b140]
noncomputable def I_b143 : List e2_In := [(173, 3, e2x_173), (174, 1, e2x_174)]
set_option maxRecDepth 1000000 in
theorem ck_b143 : e2_run (e2_cal S_b143 I_b143 4000 1) (e2_fin rs_b143) e2x_197 (fun _ => false) (fun _ _ _ _ _ => false) 4000 (e2_seek e2x_197 0) (e2_al 3 as_b143) [] E_b143 f_b143 = true := by decide +kernel
set_option maxRecDepth 1000000 in
theorem co_b143 : e2_okSB E_b143.length as_b143 f_b143 rs_b143 = true := by decide +kernel
theorem cs_b143 (hen : en_ok) (l : Launch) : e2_smOk l 8 s_b143 := e2_con0 (H := 6) (n := 1) (C := evd_197) (S := S_b143) (I := I_b143) (fuel := 4000) [] hen ei_197 (e2_fa ((cs_b103 hen l).mono (by decide)) (e2_fa (cs_b121 hen l) (e2_fa ((cs_b122 hen l).mono (by decide)) (e2_fa ((cs_b138 hen l).mono (by decide)) (e2_fa ((cs_b140 hen l).mono (by decide)) e2_fz))))) (e2_fa ein_173 (e2_fa ein_174 e2_fz)) (by decide) co_b143 ex2_197 ck_b143
/-! b144 X10_readLine -/
def as_b144 : List ev_V := [(2, 83, 0)]
def E_b144 : e2_E := [(2147483648, 2147583648, 0, 0), (2147483648, 2147483656, 1, 0), (2147483648, 2147485249, 2, 0)]
def bn939 : e2_Q8 := (bn854, bn824)
noncomputable def f_b144 : ev_H := (bn939 : e2_Q8)
noncomputable def q_b144_0 : ev_H := (bn908 : e2_Q8)
noncomputable def q_b144_1 : ev_H := (bn907 : e2_Q8)
noncomputable def q_b144_2 : ev_H := (bn909 : e2_Q8)
noncomputable def q_b144_3 : ev_H := (bn910 : e2_Q8)
noncomputable def q_b144_4 : ev_H := (bn867 : e2_Q8)
def bn940 : e2_Q4 := (bn350, bn918)
def bn941 : e2_Q5 := (bn257, bn940)
def bn942 : e2_Q6 := (bn941, bn805)
def bn943 : e2_Q7 := (bn942, bn812)
def bn944 : e2_Q8 := (bn943, bn856)
noncomputable def q_b144_5 : ev_H := (bn944 : e2_Q8)
def bn945 : e2_Q8 := (bn943, bn859)
noncomputable def q_b144_6 : ev_H := (bn945 : e2_Q8)
def bn946 : e2_Q8 := (bn943, bn862)
noncomputable def q_b144_7 : ev_H := (bn946 : e2_Q8)
def bn947 : e2_Q8 := (bn943, bn865)
noncomputable def q_b144_8 : ev_H := (bn947 : e2_Q8)
def bn948 : e2_Q8 := (bn943, bn849)
noncomputable def q_b144_9 : ev_H := (bn948 : e2_Q8)
noncomputable def rs_b144 : e2_Rs := [((9, 0, 0), q_b144_0), ((9, 0, 0), q_b144_1), ((9, 0, 0), q_b144_2), ((9, 0, 0), q_b144_3), ((9, 0, 0), q_b144_4), ((9, 0, 0), q_b144_5), ((9, 0, 0), q_b144_6), ((9, 0, 0), q_b144_7), ((9, 0, 0), q_b144_8), ((9, 0, 0), q_b144_9)]
noncomputable def s_b144 : e2_Sm := (187, as_b144, E_b144, f_b144, rs_b144)
noncomputable def S_b144 : List e2_Sm := [s_b74, s_b76, s_b77, s_b78, s_b79, s_b80, s_b81, s_b82, s_b83, s_b84, s_b85, s_b86, s_b98, s_b99, s_b124, s_b125, s_b126, s_b129, s_b139, s_b141, s_b142, s_b143]
noncomputable def I_b144 : List e2_In := [(170, 2, e2x_170), (173, 3, e2x_173), (174, 1, e2x_174), (178, 2, e2x_178), (179, 3, e2x_179), (180, 1, e2x_180), (186, 1, e2x_186)]
set_option maxRecDepth 1000000 in
theorem ck_b144 : e2_run (e2_cal S_b144 I_b144 4000 2) (e2_fin rs_b144) e2x_187 (fun _ => false) (fun _ _ _ _ _ => false) 4000 (e2_seek e2x_187 0) (e2_al 3 as_b144) [] E_b144 f_b144 = true := by decide +kernel
set_option maxRecDepth 1000000 in
theorem co_b144 : e2_okSB E_b144.length as_b144 f_b144 rs_b144 = true := by decide +kernel
theorem cs_b144 (hen : en_ok) (l : Launch) (hh : e2_hand_b l) : e2_smOk l 65 s_b144 := e2_con0 (H := 62) (n := 2) (C := evd_187) (S := S_b144) (I := I_b144) (fuel := 4000) [] hen ei_187 (e2_fa ((cs_b74 hen l).mono (by decide)) (e2_fa ((cs_b76 hen l).mono (by decide)) (e2_fa ((cs_b77 hen l).mono (by decide)) (e2_fa ((cs_b78 hen l).mono (by decide)) (e2_fa ((cs_b79 hen l).mono (by decide)) (e2_fa ((cs_b80 hen l).mono (by decide)) (e2_fa ((cs_b81 hen l).mono (by decide)) (e2_fa ((cs_b82 hen l).mono (by decide)) (e2_fa ((cs_b83 hen l).mono (by decide)) (e2_fa ((cs_b84 hen l).mono (by decide)) (e2_fa ((cs_b85 hen l).mono (by decide)) (e2_fa ((cs_b86 hen l).mono (by decide)) (e2_fa ((cs_b98 hen l).mono (by decide)) (e2_fa ((cs_b99 hen l).mono (by decide)) (e2_fa ((cs_b124 hen l hh).mono (by decide)) (e2_fa ((cs_b125 hen l hh).mono (by decide)) (e2_fa ((cs_b126 hen l).mono (by decide)) (e2_fa ((cs_b129 hen l).mono (by decide)) (e2_fa (cs_b139 hen l hh) (e2_fa (cs_b141 hen l hh) (e2_fa ((cs_b142 hen l).mono (by decide)) (e2_fa ((cs_b143 hen l).mono (by decide)) e2_fz)))))))))))))))))))))) (e2_fa ein_170 (e2_fa ein_173 (e2_fa ein_174 (e2_fa ein_178 (e2_fa ein_179 (e2_fa ein_180 (e2_fa ein_186 e2_fz))))))) (by decide) co_b144 ex2_187 ck_b144
/-! b145 X10_readGlyph -/
def as_b145 : List ev_V := [(2, 83, 0)]
def E_b145 : e2_E := [(2147483648, 2147583648, 0, 0), (2147483648, 2147483656, 1, 0), (2147483648, 2147485249, 2, 0)]
noncomputable def f_b145 : ev_H := (bn896 : e2_Q8)
def bn949 : e2_Q8 := (bn922, bn885)
noncomputable def q_b145_0 : ev_H := (bn949 : e2_Q8)
def bn950 : e2_Q8 := (bn922, bn888)
noncomputable def q_b145_1 : ev_H := (bn950 : e2_Q8)
def bn951 : e2_Q8 := (bn922, bn891)
noncomputable def q_b145_2 : ev_H := (bn951 : e2_Q8)
def bn952 : e2_Q8 := (bn922, bn894)
noncomputable def q_b145_3 : ev_H := (bn952 : e2_Q8)
def bn953 : e2_Q8 := (bn922, bn882)
noncomputable def q_b145_4 : ev_H := (bn953 : e2_Q8)
noncomputable def rs_b145 : e2_Rs := [((9, 0, 0), q_b145_0), ((9, 0, 0), q_b145_1), ((9, 0, 0), q_b145_2), ((9, 0, 0), q_b145_3), ((9, 0, 0), q_b145_4)]
noncomputable def s_b145 : e2_Sm := (196, as_b145, E_b145, f_b145, rs_b145)
noncomputable def S_b145 : List e2_Sm := [s_b15, s_b80, s_b81, s_b93, s_b94, s_b95, s_b96, s_b97, s_b100, s_b103, s_b104, s_b105, s_b106, s_b131, s_b132, s_b133, s_b134, s_b138]
noncomputable def I_b145 : List e2_In := [(179, 3, e2x_179)]
set_option maxRecDepth 1000000 in
theorem ck_b145 : e2_run (e2_cal S_b145 I_b145 4000 1) (e2_fin rs_b145) e2x_196 (fun _ => false) (fun _ _ _ _ _ => false) 4000 (e2_seek e2x_196 0) (e2_al 2 as_b145) [] E_b145 f_b145 = true := by decide +kernel
set_option maxRecDepth 1000000 in
theorem co_b145 : e2_okSB E_b145.length as_b145 f_b145 rs_b145 = true := by decide +kernel
theorem cs_b145 (hen : en_ok) (l : Launch) (hh : e2_hand_b l) : e2_smOk l 62 s_b145 := e2_con0 (H := 60) (n := 1) (C := evd_196) (S := S_b145) (I := I_b145) (fuel := 4000) [] hen ei_196 (e2_fa (hh _ hm_b15) (e2_fa ((cs_b80 hen l).mono (by decide)) (e2_fa ((cs_b81 hen l).mono (by decide)) (e2_fa ((cs_b93 hen l).mono (by decide)) (e2_fa ((cs_b94 hen l).mono (by decide)) (e2_fa ((cs_b95 hen l).mono (by decide)) (e2_fa ((cs_b96 hen l).mono (by decide)) (e2_fa ((cs_b97 hen l).mono (by decide)) (e2_fa ((cs_b100 hen l).mono (by decide)) (e2_fa ((cs_b103 hen l).mono (by decide)) (e2_fa ((cs_b104 hen l).mono (by decide)) (e2_fa ((cs_b105 hen l).mono (by decide)) (e2_fa ((cs_b106 hen l).mono (by decide)) (e2_fa ((cs_b131 hen l).mono (by decide)) (e2_fa ((cs_b132 hen l).mono (by decide)) (e2_fa ((cs_b133 hen l).mono (by decide)) (e2_fa ((cs_b134 hen l).mono (by decide)) (e2_fa ((cs_b138 hen l).mono (by decide)) e2_fz)))))))))))))))))) (e2_fa ein_179 e2_fz) (by decide) co_b145 ex2_196 ck_b145
/-! b146 X10_readGlyph -/
def as_b146 : List ev_V := [(2, 83, 0)]
def E_b146 : e2_E := [(2147483648, 2147583648, 0, 0), (2147483648, 2147483656, 1, 0), (2147483648, 2147485249, 2, 0)]
def bn954 : e2_Q8 := (bn704, bn898)
noncomputable def f_b146 : ev_H := (bn954 : e2_Q8)
noncomputable def q_b146_0 : ev_H := (bn949 : e2_Q8)
noncomputable def q_b146_1 : ev_H := (bn950 : e2_Q8)
noncomputable def q_b146_2 : ev_H := (bn951 : e2_Q8)
noncomputable def q_b146_3 : ev_H := (bn952 : e2_Q8)
noncomputable def q_b146_4 : ev_H := (bn953 : e2_Q8)
noncomputable def rs_b146 : e2_Rs := [((9, 0, 0), q_b146_0), ((9, 0, 0), q_b146_1), ((9, 0, 0), q_b146_2), ((9, 0, 0), q_b146_3), ((9, 0, 0), q_b146_4)]
noncomputable def s_b146 : e2_Sm := (196, as_b146, E_b146, f_b146, rs_b146)
noncomputable def S_b146 : List e2_Sm := [s_b16, s_b17, s_b18, s_b80, s_b81, s_b93, s_b94, s_b95, s_b96, s_b97, s_b103, s_b104, s_b105, s_b106, s_b116, s_b131, s_b132, s_b133, s_b134, s_b140]
noncomputable def I_b146 : List e2_In := [(179, 3, e2x_179)]
set_option maxRecDepth 1000000 in
theorem ck_b146 : e2_run (e2_cal S_b146 I_b146 4000 1) (e2_fin rs_b146) e2x_196 (fun _ => false) (fun _ _ _ _ _ => false) 4000 (e2_seek e2x_196 0) (e2_al 2 as_b146) [] E_b146 f_b146 = true := by decide +kernel
set_option maxRecDepth 1000000 in
theorem co_b146 : e2_okSB E_b146.length as_b146 f_b146 rs_b146 = true := by decide +kernel
theorem cs_b146 (hen : en_ok) (l : Launch) (hh : e2_hand_b l) : e2_smOk l 62 s_b146 := e2_con0 (H := 60) (n := 1) (C := evd_196) (S := S_b146) (I := I_b146) (fuel := 4000) [] hen ei_196 (e2_fa (hh _ hm_b16) (e2_fa (hh _ hm_b17) (e2_fa (hh _ hm_b18) (e2_fa ((cs_b80 hen l).mono (by decide)) (e2_fa ((cs_b81 hen l).mono (by decide)) (e2_fa ((cs_b93 hen l).mono (by decide)) (e2_fa ((cs_b94 hen l).mono (by decide)) (e2_fa ((cs_b95 hen l).mono (by decide)) (e2_fa ((cs_b96 hen l).mono (by decide)) (e2_fa ((cs_b97 hen l).mono (by decide)) (e2_fa ((cs_b103 hen l).mono (by decide)) (e2_fa ((cs_b104 hen l).mono (by decide)) (e2_fa ((cs_b105 hen l).mono (by decide)) (e2_fa ((cs_b106 hen l).mono (by decide)) (e2_fa ((cs_b116 hen l).mono (by decide)) (e2_fa ((cs_b131 hen l).mono (by decide)) (e2_fa ((cs_b132 hen l).mono (by decide)) (e2_fa ((cs_b133 hen l).mono (by decide)) (e2_fa ((cs_b134 hen l).mono (by decide)) (e2_fa ((cs_b140 hen l).mono (by decide)) e2_fz)))))))))))))))))))) (e2_fa ein_179 e2_fz) (by decide) co_b146 ex2_196 ck_b146
/-! b147 X10_readLine -/
def as_b147 : List ev_V := [(2, 83, 0)]
def E_b147 : e2_E := [(2147483648, 2147583648, 0, 0), (2147483648, 2147483656, 1, 0), (2147483648, 2147485249, 2, 0)]
def bn955 : e2_Q8 := (bn906, bn901)
noncomputable def f_b147 : ev_H := (bn955 : e2_Q8)
noncomputable def q_b147_0 : ev_H := (bn908 : e2_Q8)
noncomputable def q_b147_1 : ev_H := (bn907 : e2_Q8)
noncomputable def q_b147_2 : ev_H := (bn909 : e2_Q8)
noncomputable def q_b147_3 : ev_H := (bn910 : e2_Q8)
noncomputable def q_b147_4 : ev_H := (bn911 : e2_Q8)
def bn956 : e2_Q7 := (bn942, bn828)
def bn957 : e2_Q8 := (bn956, bn837)
noncomputable def q_b147_5 : ev_H := (bn957 : e2_Q8)
def bn958 : e2_Q8 := (bn956, bn833)
noncomputable def q_b147_6 : ev_H := (bn958 : e2_Q8)
def bn959 : e2_Q8 := (bn956, bn841)
noncomputable def q_b147_7 : ev_H := (bn959 : e2_Q8)
def bn960 : e2_Q8 := (bn956, bn845)
noncomputable def q_b147_8 : ev_H := (bn960 : e2_Q8)
def bn961 : e2_Q8 := (bn956, bn904)
noncomputable def q_b147_9 : ev_H := (bn961 : e2_Q8)
noncomputable def rs_b147 : e2_Rs := [((9, 0, 0), q_b147_0), ((9, 0, 0), q_b147_1), ((9, 0, 0), q_b147_2), ((9, 0, 0), q_b147_3), ((9, 0, 0), q_b147_4), ((9, 0, 0), q_b147_5), ((9, 0, 0), q_b147_6), ((9, 0, 0), q_b147_7), ((9, 0, 0), q_b147_8), ((9, 0, 0), q_b147_9)]
noncomputable def s_b147 : e2_Sm := (187, as_b147, E_b147, f_b147, rs_b147)
noncomputable def S_b147 : List e2_Sm := [s_b74, s_b76, s_b77, s_b78, s_b79, s_b80, s_b81, s_b82, s_b83, s_b84, s_b85, s_b86, s_b98, s_b99, s_b124, s_b125, s_b126, s_b129, s_b142, s_b143, s_b145, s_b146]
noncomputable def I_b147 : List e2_In := [(170, 2, e2x_170), (173, 3, e2x_173), (174, 1, e2x_174), (178, 2, e2x_178), (179, 3, e2x_179), (180, 1, e2x_180), (186, 1, e2x_186)]
set_option maxRecDepth 1000000 in
theorem ck_b147 : e2_run (e2_cal S_b147 I_b147 4000 2) (e2_fin rs_b147) e2x_187 (fun _ => false) (fun _ _ _ _ _ => false) 4000 (e2_seek e2x_187 0) (e2_al 3 as_b147) [] E_b147 f_b147 = true := by decide +kernel
set_option maxRecDepth 1000000 in
theorem co_b147 : e2_okSB E_b147.length as_b147 f_b147 rs_b147 = true := by decide +kernel
theorem cs_b147 (hen : en_ok) (l : Launch) (hh : e2_hand_b l) : e2_smOk l 65 s_b147 := e2_con0 (H := 62) (n := 2) (C := evd_187) (S := S_b147) (I := I_b147) (fuel := 4000) [] hen ei_187 (e2_fa ((cs_b74 hen l).mono (by decide)) (e2_fa ((cs_b76 hen l).mono (by decide)) (e2_fa ((cs_b77 hen l).mono (by decide)) (e2_fa ((cs_b78 hen l).mono (by decide)) (e2_fa ((cs_b79 hen l).mono (by decide)) (e2_fa ((cs_b80 hen l).mono (by decide)) (e2_fa ((cs_b81 hen l).mono (by decide)) (e2_fa ((cs_b82 hen l).mono (by decide)) (e2_fa ((cs_b83 hen l).mono (by decide)) (e2_fa ((cs_b84 hen l).mono (by decide)) (e2_fa ((cs_b85 hen l).mono (by decide)) (e2_fa ((cs_b86 hen l).mono (by decide)) (e2_fa ((cs_b98 hen l).mono (by decide)) (e2_fa ((cs_b99 hen l).mono (by decide)) (e2_fa ((cs_b124 hen l hh).mono (by decide)) (e2_fa ((cs_b125 hen l hh).mono (by decide)) (e2_fa ((cs_b126 hen l).mono (by decide)) (e2_fa ((cs_b129 hen l).mono (by decide)) (e2_fa ((cs_b142 hen l).mono (by decide)) (e2_fa ((cs_b143 hen l).mono (by decide)) (e2_fa (cs_b145 hen l hh) (e2_fa (cs_b146 hen l hh) e2_fz)))))))))))))))))))))) (e2_fa ein_170 (e2_fa ein_173 (e2_fa ein_174 (e2_fa ein_178 (e2_fa ein_179 (e2_fa ein_180 (e2_fa ein_186 e2_fz))))))) (by decide) co_b147 ex2_187 ck_b147
/-! b148 X10_glyphHere -/
def as_b148 : List ev_V := [(2, 83, 0)]
def E_b148 : e2_E := [(2147483648, 2147583648, 0, 0), (2147483648, 2147483656, 1, 0), (2147483648, 2147485249, 2, 0)]
def bn962 : e2_Q5 := (bn14, bn919)
def bn963 : e2_Q6 := (bn962, bn334)
def bn964 : e2_Q7 := (bn963, bn273)
def bn965 : e2_Q8 := (bn964, bn573)
noncomputable def f_b148 : ev_H := (bn965 : e2_Q8)
noncomputable def q_b148_0 : ev_H := (bn965 : e2_Q8)
noncomputable def rs_b148 : e2_Rs := [((0, 4294967295, 0), q_b148_0)]
noncomputable def s_b148 : e2_Sm := (190, as_b148, E_b148, f_b148, rs_b148)
noncomputable def S_b148 : List e2_Sm := [s_b101]
noncomputable def I_b148 : List e2_In := []
set_option maxRecDepth 1000000 in
theorem ck_b148 : e2_run (e2_cal S_b148 I_b148 4000 0) (e2_fin rs_b148) e2x_190 (fun _ => false) (fun _ _ _ _ _ => false) 4000 (e2_seek e2x_190 0) (e2_al 1 as_b148) [] E_b148 f_b148 = true := by decide +kernel
set_option maxRecDepth 1000000 in
theorem co_b148 : e2_okSB E_b148.length as_b148 f_b148 rs_b148 = true := by decide +kernel
theorem cs_b148 (hen : en_ok) (l : Launch) : e2_smOk l 2 s_b148 := e2_con0 (H := 1) (n := 0) (C := evd_190) (S := S_b148) (I := I_b148) (fuel := 4000) [] hen ei_190 (e2_fa (cs_b101 hen l) e2_fz) e2_fz (by decide) co_b148 ex2_190 ck_b148
/-! b149 X10_readGlyph -/
def as_b149 : List ev_V := [(2, 83, 0)]
def E_b149 : e2_E := [(2147483648, 2147583648, 0, 0), (2147483648, 2147483656, 1, 0), (2147483648, 2147485249, 2, 0)]
noncomputable def f_b149 : ev_H := (bn927 : e2_Q8)
def bc186 : ev_C := (50, [(1, 1, 4294967296), (0, 3, 0)])
def bn966 : e2_Q1 := (bc186, bc3)
def bn967 : e2_Q2 := (bn22, bn966)
def bn968 : e2_Q3 := (bn967, bn27)
def bn969 : e2_Q4 := (bn21, bn968)
def bn970 : e2_Q5 := (bn257, bn969)
def bn971 : e2_Q6 := (bn970, bn266)
def bn972 : e2_Q7 := (bn971, bn687)
def bn973 : e2_Q8 := (bn972, bn708)
noncomputable def q_b149_0 : ev_H := (bn973 : e2_Q8)
def bn974 : e2_Q8 := (bn972, bn713)
noncomputable def q_b149_1 : ev_H := (bn974 : e2_Q8)
def bn975 : e2_Q8 := (bn972, bn718)
noncomputable def q_b149_2 : ev_H := (bn975 : e2_Q8)
def bn976 : e2_Q8 := (bn972, bn723)
noncomputable def q_b149_3 : ev_H := (bn976 : e2_Q8)
def bn977 : e2_Q8 := (bn972, bn696)
noncomputable def q_b149_4 : ev_H := (bn977 : e2_Q8)
noncomputable def rs_b149 : e2_Rs := [((9, 0, 0), q_b149_0), ((9, 0, 0), q_b149_1), ((9, 0, 0), q_b149_2), ((9, 0, 0), q_b149_3), ((9, 0, 0), q_b149_4)]
noncomputable def s_b149 : e2_Sm := (196, as_b149, E_b149, f_b149, rs_b149)
noncomputable def S_b149 : List e2_Sm := [s_b19, s_b80, s_b81, s_b93, s_b94, s_b95, s_b96, s_b97, s_b100, s_b103, s_b104, s_b105, s_b106, s_b108, s_b110, s_b112, s_b114, s_b148]
noncomputable def I_b149 : List e2_In := [(179, 3, e2x_179)]
set_option maxRecDepth 1000000 in
theorem ck_b149 : e2_run (e2_cal S_b149 I_b149 4000 1) (e2_fin rs_b149) e2x_196 (fun _ => false) (fun _ _ _ _ _ => false) 4000 (e2_seek e2x_196 0) (e2_al 2 as_b149) [] E_b149 f_b149 = true := by decide +kernel
set_option maxRecDepth 1000000 in
theorem co_b149 : e2_okSB E_b149.length as_b149 f_b149 rs_b149 = true := by decide +kernel
theorem cs_b149 (hen : en_ok) (l : Launch) (hh : e2_hand_b l) : e2_smOk l 62 s_b149 := e2_con0 (H := 60) (n := 1) (C := evd_196) (S := S_b149) (I := I_b149) (fuel := 4000) [] hen ei_196 (e2_fa (hh _ hm_b19) (e2_fa ((cs_b80 hen l).mono (by decide)) (e2_fa ((cs_b81 hen l).mono (by decide)) (e2_fa ((cs_b93 hen l).mono (by decide)) (e2_fa ((cs_b94 hen l).mono (by decide)) (e2_fa ((cs_b95 hen l).mono (by decide)) (e2_fa ((cs_b96 hen l).mono (by decide)) (e2_fa ((cs_b97 hen l).mono (by decide)) (e2_fa ((cs_b100 hen l).mono (by decide)) (e2_fa ((cs_b103 hen l).mono (by decide)) (e2_fa ((cs_b104 hen l).mono (by decide)) (e2_fa ((cs_b105 hen l).mono (by decide)) (e2_fa ((cs_b106 hen l).mono (by decide)) (e2_fa ((cs_b108 hen l).mono (by decide)) (e2_fa ((cs_b110 hen l).mono (by decide)) (e2_fa ((cs_b112 hen l).mono (by decide)) (e2_fa ((cs_b114 hen l).mono (by decide)) (e2_fa ((cs_b148 hen l).mono (by decide)) e2_fz)))))))))))))))))) (e2_fa ein_179 e2_fz) (by decide) co_b149 ex2_196 ck_b149
/-! b150 X10_glyphHere -/
def as_b150 : List ev_V := [(2, 83, 0)]
def E_b150 : e2_E := [(2147483648, 2147583648, 0, 0), (2147483648, 2147483656, 1, 0), (2147483648, 2147485249, 2, 0)]
def bn978 : e2_Q7 := (bn963, bn727)
def bn979 : e2_Q8 := (bn978, bn729)
noncomputable def f_b150 : ev_H := (bn979 : e2_Q8)
noncomputable def q_b150_0 : ev_H := (bn979 : e2_Q8)
noncomputable def rs_b150 : e2_Rs := [((11, 2147483647, 2147483655), q_b150_0)]
noncomputable def s_b150 : e2_Sm := (190, as_b150, E_b150, f_b150, rs_b150)
noncomputable def S_b150 : List e2_Sm := [s_b117]
noncomputable def I_b150 : List e2_In := []
set_option maxRecDepth 1000000 in
theorem ck_b150 : e2_run (e2_cal S_b150 I_b150 4000 0) (e2_fin rs_b150) e2x_190 (fun _ => false) (fun _ _ _ _ _ => false) 4000 (e2_seek e2x_190 0) (e2_al 1 as_b150) [] E_b150 f_b150 = true := by decide +kernel
set_option maxRecDepth 1000000 in
theorem co_b150 : e2_okSB E_b150.length as_b150 f_b150 rs_b150 = true := by decide +kernel
theorem cs_b150 (hen : en_ok) (l : Launch) : e2_smOk l 2 s_b150 := e2_con0 (H := 1) (n := 0) (C := evd_190) (S := S_b150) (I := I_b150) (fuel := 4000) [] hen ei_190 (e2_fa (cs_b117 hen l) e2_fz) e2_fz (by decide) co_b150 ex2_190 ck_b150
/-! b151 X10_readGlyph -/
def as_b151 : List ev_V := [(2, 83, 0)]
def E_b151 : e2_E := [(2147483648, 2147583648, 0, 0), (2147483648, 2147483656, 1, 0), (2147483648, 2147485249, 2, 0)]
def bn980 : e2_Q8 := (bn922, bn736)
noncomputable def f_b151 : ev_H := (bn980 : e2_Q8)
noncomputable def q_b151_0 : ev_H := (bn973 : e2_Q8)
noncomputable def q_b151_1 : ev_H := (bn974 : e2_Q8)
noncomputable def q_b151_2 : ev_H := (bn975 : e2_Q8)
noncomputable def q_b151_3 : ev_H := (bn976 : e2_Q8)
noncomputable def q_b151_4 : ev_H := (bn977 : e2_Q8)
noncomputable def rs_b151 : e2_Rs := [((9, 0, 0), q_b151_0), ((9, 0, 0), q_b151_1), ((9, 0, 0), q_b151_2), ((9, 0, 0), q_b151_3), ((9, 0, 0), q_b151_4)]
noncomputable def s_b151 : e2_Sm := (196, as_b151, E_b151, f_b151, rs_b151)
noncomputable def S_b151 : List e2_Sm := [s_b20, s_b21, s_b22, s_b80, s_b81, s_b93, s_b94, s_b95, s_b96, s_b97, s_b103, s_b104, s_b105, s_b106, s_b108, s_b110, s_b112, s_b114, s_b116, s_b150]
noncomputable def I_b151 : List e2_In := [(179, 3, e2x_179)]
set_option maxRecDepth 1000000 in
theorem ck_b151 : e2_run (e2_cal S_b151 I_b151 4000 1) (e2_fin rs_b151) e2x_196 (fun _ => false) (fun _ _ _ _ _ => false) 4000 (e2_seek e2x_196 0) (e2_al 2 as_b151) [] E_b151 f_b151 = true := by decide +kernel
set_option maxRecDepth 1000000 in
theorem co_b151 : e2_okSB E_b151.length as_b151 f_b151 rs_b151 = true := by decide +kernel
theorem cs_b151 (hen : en_ok) (l : Launch) (hh : e2_hand_b l) : e2_smOk l 62 s_b151 := e2_con0 (H := 60) (n := 1) (C := evd_196) (S := S_b151) (I := I_b151) (fuel := 4000) [] hen ei_196 (e2_fa (hh _ hm_b20) (e2_fa (hh _ hm_b21) (e2_fa (hh _ hm_b22) (e2_fa ((cs_b80 hen l).mono (by decide)) (e2_fa ((cs_b81 hen l).mono (by decide)) (e2_fa ((cs_b93 hen l).mono (by decide)) (e2_fa ((cs_b94 hen l).mono (by decide)) (e2_fa ((cs_b95 hen l).mono (by decide)) (e2_fa ((cs_b96 hen l).mono (by decide)) (e2_fa ((cs_b97 hen l).mono (by decide)) (e2_fa ((cs_b103 hen l).mono (by decide)) (e2_fa ((cs_b104 hen l).mono (by decide)) (e2_fa ((cs_b105 hen l).mono (by decide)) (e2_fa ((cs_b106 hen l).mono (by decide)) (e2_fa ((cs_b108 hen l).mono (by decide)) (e2_fa ((cs_b110 hen l).mono (by decide)) (e2_fa ((cs_b112 hen l).mono (by decide)) (e2_fa ((cs_b114 hen l).mono (by decide)) (e2_fa ((cs_b116 hen l).mono (by decide)) (e2_fa ((cs_b150 hen l).mono (by decide)) e2_fz)))))))))))))))))))) (e2_fa ein_179 e2_fz) (by decide) co_b151 ex2_196 ck_b151
/-! b152 X10_readNever -/
def as_b152 : List ev_V := [(2, 83, 0)]
def E_b152 : e2_E := [(2147483648, 2147583648, 0, 0), (2147483648, 2147483656, 1, 0), (2147483648, 2147485249, 2, 0)]
noncomputable def f_b152 : ev_H := (bn965 : e2_Q8)
def bn981 : e2_Q8 := (bn964, bn555)
noncomputable def q_b152_0 : ev_H := (bn981 : e2_Q8)
noncomputable def rs_b152 : e2_Rs := [((9, 0, 0), q_b152_0)]
noncomputable def s_b152 : e2_Sm := (197, as_b152, E_b152, f_b152, rs_b152)
noncomputable def S_b152 : List e2_Sm := [s_b103, s_b148]
noncomputable def I_b152 : List e2_In := [(174, 1, e2x_174)]
set_option maxRecDepth 1000000 in
theorem ck_b152 : e2_run (e2_cal S_b152 I_b152 4000 1) (e2_fin rs_b152) e2x_197 (fun _ => false) (fun _ _ _ _ _ => false) 4000 (e2_seek e2x_197 0) (e2_al 3 as_b152) [] E_b152 f_b152 = true := by decide +kernel
set_option maxRecDepth 1000000 in
theorem co_b152 : e2_okSB E_b152.length as_b152 f_b152 rs_b152 = true := by decide +kernel
theorem cs_b152 (hen : en_ok) (l : Launch) : e2_smOk l 5 s_b152 := e2_con0 (H := 3) (n := 1) (C := evd_197) (S := S_b152) (I := I_b152) (fuel := 4000) [] hen ei_197 (e2_fa (cs_b103 hen l) (e2_fa ((cs_b148 hen l).mono (by decide)) e2_fz)) (e2_fa ein_174 e2_fz) (by decide) co_b152 ex2_197 ck_b152
/-! b153 X10_readNever -/
def as_b153 : List ev_V := [(2, 83, 0)]
def E_b153 : e2_E := [(2147483648, 2147583648, 0, 0), (2147483648, 2147483656, 1, 0), (2147483648, 2147485249, 2, 0)]
def bn982 : e2_Q6 := (bn962, bn739)
def bn983 : e2_Q7 := (bn982, bn727)
def bn984 : e2_Q8 := (bn983, bn743)
noncomputable def f_b153 : ev_H := (bn984 : e2_Q8)
def bn985 : e2_Q8 := (bn983, bn745)
noncomputable def q_b153_0 : ev_H := (bn985 : e2_Q8)
def bn986 : e2_Q8 := (bn983, bn747)
noncomputable def q_b153_1 : ev_H := (bn986 : e2_Q8)
def bn987 : e2_Q8 := (bn983, bn749)
noncomputable def q_b153_2 : ev_H := (bn987 : e2_Q8)
def bn988 : e2_Q8 := (bn983, bn751)
noncomputable def q_b153_3 : ev_H := (bn988 : e2_Q8)
noncomputable def rs_b153 : e2_Rs := [((9, 0, 0), q_b153_0), ((9, 0, 0), q_b153_1), ((9, 0, 0), q_b153_2), ((9, 0, 0), q_b153_3)]
noncomputable def s_b153 : e2_Sm := (197, as_b153, E_b153, f_b153, rs_b153)
noncomputable def S_b153 : List e2_Sm := [s_b103, s_b121, s_b122, s_b148, s_b150]
noncomputable def I_b153 : List e2_In := [(173, 3, e2x_173), (174, 1, e2x_174)]
set_option maxRecDepth 1000000 in
theorem ck_b153 : e2_run (e2_cal S_b153 I_b153 4000 1) (e2_fin rs_b153) e2x_197 (fun _ => false) (fun _ _ _ _ _ => false) 4000 (e2_seek e2x_197 0) (e2_al 3 as_b153) [] E_b153 f_b153 = true := by decide +kernel
set_option maxRecDepth 1000000 in
theorem co_b153 : e2_okSB E_b153.length as_b153 f_b153 rs_b153 = true := by decide +kernel
theorem cs_b153 (hen : en_ok) (l : Launch) : e2_smOk l 8 s_b153 := e2_con0 (H := 6) (n := 1) (C := evd_197) (S := S_b153) (I := I_b153) (fuel := 4000) [] hen ei_197 (e2_fa ((cs_b103 hen l).mono (by decide)) (e2_fa (cs_b121 hen l) (e2_fa ((cs_b122 hen l).mono (by decide)) (e2_fa ((cs_b148 hen l).mono (by decide)) (e2_fa ((cs_b150 hen l).mono (by decide)) e2_fz))))) (e2_fa ein_173 (e2_fa ein_174 e2_fz)) (by decide) co_b153 ex2_197 ck_b153
/-! b154 X10_readLine -/
def as_b154 : List ev_V := [(2, 83, 0)]
def E_b154 : e2_E := [(2147483648, 2147583648, 0, 0), (2147483648, 2147483656, 1, 0), (2147483648, 2147485249, 2, 0)]
def bn989 : e2_Q8 := (bn943, bn824)
noncomputable def f_b154 : ev_H := (bn989 : e2_Q8)
noncomputable def q_b154_0 : ev_H := (bn958 : e2_Q8)
noncomputable def q_b154_1 : ev_H := (bn957 : e2_Q8)
noncomputable def q_b154_2 : ev_H := (bn959 : e2_Q8)
noncomputable def q_b154_3 : ev_H := (bn960 : e2_Q8)
noncomputable def q_b154_4 : ev_H := (bn948 : e2_Q8)
def bn990 : e2_Q4 := (bn350, bn968)
def bn991 : e2_Q5 := (bn257, bn990)
def bn992 : e2_Q6 := (bn991, bn805)
def bn993 : e2_Q7 := (bn992, bn812)
def bn994 : e2_Q8 := (bn993, bn856)
noncomputable def q_b154_5 : ev_H := (bn994 : e2_Q8)
def bn995 : e2_Q8 := (bn993, bn859)
noncomputable def q_b154_6 : ev_H := (bn995 : e2_Q8)
def bn996 : e2_Q8 := (bn993, bn862)
noncomputable def q_b154_7 : ev_H := (bn996 : e2_Q8)
def bn997 : e2_Q8 := (bn993, bn865)
noncomputable def q_b154_8 : ev_H := (bn997 : e2_Q8)
def bn998 : e2_Q8 := (bn993, bn849)
noncomputable def q_b154_9 : ev_H := (bn998 : e2_Q8)
noncomputable def rs_b154 : e2_Rs := [((9, 0, 0), q_b154_0), ((9, 0, 0), q_b154_1), ((9, 0, 0), q_b154_2), ((9, 0, 0), q_b154_3), ((9, 0, 0), q_b154_4), ((9, 0, 0), q_b154_5), ((9, 0, 0), q_b154_6), ((9, 0, 0), q_b154_7), ((9, 0, 0), q_b154_8), ((9, 0, 0), q_b154_9)]
noncomputable def s_b154 : e2_Sm := (187, as_b154, E_b154, f_b154, rs_b154)
noncomputable def S_b154 : List e2_Sm := [s_b74, s_b76, s_b77, s_b78, s_b79, s_b80, s_b81, s_b82, s_b83, s_b84, s_b85, s_b86, s_b98, s_b99, s_b124, s_b125, s_b126, s_b129, s_b149, s_b151, s_b152, s_b153]
noncomputable def I_b154 : List e2_In := [(170, 2, e2x_170), (173, 3, e2x_173), (174, 1, e2x_174), (178, 2, e2x_178), (179, 3, e2x_179), (180, 1, e2x_180), (186, 1, e2x_186)]
set_option maxRecDepth 1000000 in
theorem ck_b154 : e2_run (e2_cal S_b154 I_b154 4000 2) (e2_fin rs_b154) e2x_187 (fun _ => false) (fun _ _ _ _ _ => false) 4000 (e2_seek e2x_187 0) (e2_al 3 as_b154) [] E_b154 f_b154 = true := by decide +kernel
set_option maxRecDepth 1000000 in
theorem co_b154 : e2_okSB E_b154.length as_b154 f_b154 rs_b154 = true := by decide +kernel
theorem cs_b154 (hen : en_ok) (l : Launch) (hh : e2_hand_b l) : e2_smOk l 65 s_b154 := e2_con0 (H := 62) (n := 2) (C := evd_187) (S := S_b154) (I := I_b154) (fuel := 4000) [] hen ei_187 (e2_fa ((cs_b74 hen l).mono (by decide)) (e2_fa ((cs_b76 hen l).mono (by decide)) (e2_fa ((cs_b77 hen l).mono (by decide)) (e2_fa ((cs_b78 hen l).mono (by decide)) (e2_fa ((cs_b79 hen l).mono (by decide)) (e2_fa ((cs_b80 hen l).mono (by decide)) (e2_fa ((cs_b81 hen l).mono (by decide)) (e2_fa ((cs_b82 hen l).mono (by decide)) (e2_fa ((cs_b83 hen l).mono (by decide)) (e2_fa ((cs_b84 hen l).mono (by decide)) (e2_fa ((cs_b85 hen l).mono (by decide)) (e2_fa ((cs_b86 hen l).mono (by decide)) (e2_fa ((cs_b98 hen l).mono (by decide)) (e2_fa ((cs_b99 hen l).mono (by decide)) (e2_fa ((cs_b124 hen l hh).mono (by decide)) (e2_fa ((cs_b125 hen l hh).mono (by decide)) (e2_fa ((cs_b126 hen l).mono (by decide)) (e2_fa ((cs_b129 hen l).mono (by decide)) (e2_fa (cs_b149 hen l hh) (e2_fa (cs_b151 hen l hh) (e2_fa ((cs_b152 hen l).mono (by decide)) (e2_fa ((cs_b153 hen l).mono (by decide)) e2_fz)))))))))))))))))))))) (e2_fa ein_170 (e2_fa ein_173 (e2_fa ein_174 (e2_fa ein_178 (e2_fa ein_179 (e2_fa ein_180 (e2_fa ein_186 e2_fz))))))) (by decide) co_b154 ex2_187 ck_b154
/-! b155 X10_readGlyph -/
def as_b155 : List ev_V := [(2, 83, 0)]
def E_b155 : e2_E := [(2147483648, 2147583648, 0, 0), (2147483648, 2147483656, 1, 0), (2147483648, 2147485249, 2, 0)]
noncomputable def f_b155 : ev_H := (bn953 : e2_Q8)
def bn999 : e2_Q8 := (bn972, bn885)
noncomputable def q_b155_0 : ev_H := (bn999 : e2_Q8)
def bn1000 : e2_Q8 := (bn972, bn888)
noncomputable def q_b155_1 : ev_H := (bn1000 : e2_Q8)
def bn1001 : e2_Q8 := (bn972, bn891)
noncomputable def q_b155_2 : ev_H := (bn1001 : e2_Q8)
def bn1002 : e2_Q8 := (bn972, bn894)
noncomputable def q_b155_3 : ev_H := (bn1002 : e2_Q8)
def bn1003 : e2_Q8 := (bn972, bn882)
noncomputable def q_b155_4 : ev_H := (bn1003 : e2_Q8)
noncomputable def rs_b155 : e2_Rs := [((9, 0, 0), q_b155_0), ((9, 0, 0), q_b155_1), ((9, 0, 0), q_b155_2), ((9, 0, 0), q_b155_3), ((9, 0, 0), q_b155_4)]
noncomputable def s_b155 : e2_Sm := (196, as_b155, E_b155, f_b155, rs_b155)
noncomputable def S_b155 : List e2_Sm := [s_b23, s_b80, s_b81, s_b93, s_b94, s_b95, s_b96, s_b97, s_b100, s_b103, s_b104, s_b105, s_b106, s_b131, s_b132, s_b133, s_b134, s_b148]
noncomputable def I_b155 : List e2_In := [(179, 3, e2x_179)]
set_option maxRecDepth 1000000 in
theorem ck_b155 : e2_run (e2_cal S_b155 I_b155 4000 1) (e2_fin rs_b155) e2x_196 (fun _ => false) (fun _ _ _ _ _ => false) 4000 (e2_seek e2x_196 0) (e2_al 2 as_b155) [] E_b155 f_b155 = true := by decide +kernel
set_option maxRecDepth 1000000 in
theorem co_b155 : e2_okSB E_b155.length as_b155 f_b155 rs_b155 = true := by decide +kernel
theorem cs_b155 (hen : en_ok) (l : Launch) (hh : e2_hand_b l) : e2_smOk l 62 s_b155 := e2_con0 (H := 60) (n := 1) (C := evd_196) (S := S_b155) (I := I_b155) (fuel := 4000) [] hen ei_196 (e2_fa (hh _ hm_b23) (e2_fa ((cs_b80 hen l).mono (by decide)) (e2_fa ((cs_b81 hen l).mono (by decide)) (e2_fa ((cs_b93 hen l).mono (by decide)) (e2_fa ((cs_b94 hen l).mono (by decide)) (e2_fa ((cs_b95 hen l).mono (by decide)) (e2_fa ((cs_b96 hen l).mono (by decide)) (e2_fa ((cs_b97 hen l).mono (by decide)) (e2_fa ((cs_b100 hen l).mono (by decide)) (e2_fa ((cs_b103 hen l).mono (by decide)) (e2_fa ((cs_b104 hen l).mono (by decide)) (e2_fa ((cs_b105 hen l).mono (by decide)) (e2_fa ((cs_b106 hen l).mono (by decide)) (e2_fa ((cs_b131 hen l).mono (by decide)) (e2_fa ((cs_b132 hen l).mono (by decide)) (e2_fa ((cs_b133 hen l).mono (by decide)) (e2_fa ((cs_b134 hen l).mono (by decide)) (e2_fa ((cs_b148 hen l).mono (by decide)) e2_fz)))))))))))))))))) (e2_fa ein_179 e2_fz) (by decide) co_b155 ex2_196 ck_b155
/-! b156 X10_readGlyph -/
def as_b156 : List ev_V := [(2, 83, 0)]
def E_b156 : e2_E := [(2147483648, 2147583648, 0, 0), (2147483648, 2147483656, 1, 0), (2147483648, 2147485249, 2, 0)]
def bn1004 : e2_Q8 := (bn922, bn898)
noncomputable def f_b156 : ev_H := (bn1004 : e2_Q8)
noncomputable def q_b156_0 : ev_H := (bn999 : e2_Q8)
noncomputable def q_b156_1 : ev_H := (bn1000 : e2_Q8)
noncomputable def q_b156_2 : ev_H := (bn1001 : e2_Q8)
noncomputable def q_b156_3 : ev_H := (bn1002 : e2_Q8)
noncomputable def q_b156_4 : ev_H := (bn1003 : e2_Q8)
noncomputable def rs_b156 : e2_Rs := [((9, 0, 0), q_b156_0), ((9, 0, 0), q_b156_1), ((9, 0, 0), q_b156_2), ((9, 0, 0), q_b156_3), ((9, 0, 0), q_b156_4)]
noncomputable def s_b156 : e2_Sm := (196, as_b156, E_b156, f_b156, rs_b156)
noncomputable def S_b156 : List e2_Sm := [s_b24, s_b25, s_b26, s_b80, s_b81, s_b93, s_b94, s_b95, s_b96, s_b97, s_b103, s_b104, s_b105, s_b106, s_b116, s_b131, s_b132, s_b133, s_b134, s_b150]
noncomputable def I_b156 : List e2_In := [(179, 3, e2x_179)]
set_option maxRecDepth 1000000 in
theorem ck_b156 : e2_run (e2_cal S_b156 I_b156 4000 1) (e2_fin rs_b156) e2x_196 (fun _ => false) (fun _ _ _ _ _ => false) 4000 (e2_seek e2x_196 0) (e2_al 2 as_b156) [] E_b156 f_b156 = true := by decide +kernel
set_option maxRecDepth 1000000 in
theorem co_b156 : e2_okSB E_b156.length as_b156 f_b156 rs_b156 = true := by decide +kernel
theorem cs_b156 (hen : en_ok) (l : Launch) (hh : e2_hand_b l) : e2_smOk l 62 s_b156 := e2_con0 (H := 60) (n := 1) (C := evd_196) (S := S_b156) (I := I_b156) (fuel := 4000) [] hen ei_196 (e2_fa (hh _ hm_b24) (e2_fa (hh _ hm_b25) (e2_fa (hh _ hm_b26) (e2_fa ((cs_b80 hen l).mono (by decide)) (e2_fa ((cs_b81 hen l).mono (by decide)) (e2_fa ((cs_b93 hen l).mono (by decide)) (e2_fa ((cs_b94 hen l).mono (by decide)) (e2_fa ((cs_b95 hen l).mono (by decide)) (e2_fa ((cs_b96 hen l).mono (by decide)) (e2_fa ((cs_b97 hen l).mono (by decide)) (e2_fa ((cs_b103 hen l).mono (by decide)) (e2_fa ((cs_b104 hen l).mono (by decide)) (e2_fa ((cs_b105 hen l).mono (by decide)) (e2_fa ((cs_b106 hen l).mono (by decide)) (e2_fa ((cs_b116 hen l).mono (by decide)) (e2_fa ((cs_b131 hen l).mono (by decide)) (e2_fa ((cs_b132 hen l).mono (by decide)) (e2_fa ((cs_b133 hen l).mono (by decide)) (e2_fa ((cs_b134 hen l).mono (by decide)) (e2_fa ((cs_b150 hen l).mono (by decide)) e2_fz)))))))))))))))))))) (e2_fa ein_179 e2_fz) (by decide) co_b156 ex2_196 ck_b156
/-! b157 X10_readLine -/
def as_b157 : List ev_V := [(2, 83, 0)]
def E_b157 : e2_E := [(2147483648, 2147583648, 0, 0), (2147483648, 2147483656, 1, 0), (2147483648, 2147485249, 2, 0)]
def bn1005 : e2_Q8 := (bn956, bn901)
noncomputable def f_b157 : ev_H := (bn1005 : e2_Q8)
noncomputable def q_b157_0 : ev_H := (bn958 : e2_Q8)
noncomputable def q_b157_1 : ev_H := (bn957 : e2_Q8)
noncomputable def q_b157_2 : ev_H := (bn959 : e2_Q8)
noncomputable def q_b157_3 : ev_H := (bn960 : e2_Q8)
noncomputable def q_b157_4 : ev_H := (bn961 : e2_Q8)
def bn1006 : e2_Q7 := (bn992, bn828)
def bn1007 : e2_Q8 := (bn1006, bn837)
noncomputable def q_b157_5 : ev_H := (bn1007 : e2_Q8)
def bn1008 : e2_Q8 := (bn1006, bn833)
noncomputable def q_b157_6 : ev_H := (bn1008 : e2_Q8)
def bn1009 : e2_Q8 := (bn1006, bn841)
noncomputable def q_b157_7 : ev_H := (bn1009 : e2_Q8)
def bn1010 : e2_Q8 := (bn1006, bn845)
noncomputable def q_b157_8 : ev_H := (bn1010 : e2_Q8)
def bn1011 : e2_Q8 := (bn1006, bn904)
noncomputable def q_b157_9 : ev_H := (bn1011 : e2_Q8)
noncomputable def rs_b157 : e2_Rs := [((9, 0, 0), q_b157_0), ((9, 0, 0), q_b157_1), ((9, 0, 0), q_b157_2), ((9, 0, 0), q_b157_3), ((9, 0, 0), q_b157_4), ((9, 0, 0), q_b157_5), ((9, 0, 0), q_b157_6), ((9, 0, 0), q_b157_7), ((9, 0, 0), q_b157_8), ((9, 0, 0), q_b157_9)]
noncomputable def s_b157 : e2_Sm := (187, as_b157, E_b157, f_b157, rs_b157)
noncomputable def S_b157 : List e2_Sm := [s_b74, s_b76, s_b77, s_b78, s_b79, s_b80, s_b81, s_b82, s_b83, s_b84, s_b85, s_b86, s_b98, s_b99, s_b124, s_b125, s_b126, s_b129, s_b152, s_b153, s_b155, s_b156]
noncomputable def I_b157 : List e2_In := [(170, 2, e2x_170), (173, 3, e2x_173), (174, 1, e2x_174), (178, 2, e2x_178), (179, 3, e2x_179), (180, 1, e2x_180), (186, 1, e2x_186)]
set_option maxRecDepth 1000000 in
theorem ck_b157 : e2_run (e2_cal S_b157 I_b157 4000 2) (e2_fin rs_b157) e2x_187 (fun _ => false) (fun _ _ _ _ _ => false) 4000 (e2_seek e2x_187 0) (e2_al 3 as_b157) [] E_b157 f_b157 = true := by decide +kernel
set_option maxRecDepth 1000000 in
theorem co_b157 : e2_okSB E_b157.length as_b157 f_b157 rs_b157 = true := by decide +kernel
theorem cs_b157 (hen : en_ok) (l : Launch) (hh : e2_hand_b l) : e2_smOk l 65 s_b157 := e2_con0 (H := 62) (n := 2) (C := evd_187) (S := S_b157) (I := I_b157) (fuel := 4000) [] hen ei_187 (e2_fa ((cs_b74 hen l).mono (by decide)) (e2_fa ((cs_b76 hen l).mono (by decide)) (e2_fa ((cs_b77 hen l).mono (by decide)) (e2_fa ((cs_b78 hen l).mono (by decide)) (e2_fa ((cs_b79 hen l).mono (by decide)) (e2_fa ((cs_b80 hen l).mono (by decide)) (e2_fa ((cs_b81 hen l).mono (by decide)) (e2_fa ((cs_b82 hen l).mono (by decide)) (e2_fa ((cs_b83 hen l).mono (by decide)) (e2_fa ((cs_b84 hen l).mono (by decide)) (e2_fa ((cs_b85 hen l).mono (by decide)) (e2_fa ((cs_b86 hen l).mono (by decide)) (e2_fa ((cs_b98 hen l).mono (by decide)) (e2_fa ((cs_b99 hen l).mono (by decide)) (e2_fa ((cs_b124 hen l hh).mono (by decide)) (e2_fa ((cs_b125 hen l hh).mono (by decide)) (e2_fa ((cs_b126 hen l).mono (by decide)) (e2_fa ((cs_b129 hen l).mono (by decide)) (e2_fa ((cs_b152 hen l).mono (by decide)) (e2_fa ((cs_b153 hen l).mono (by decide)) (e2_fa (cs_b155 hen l hh) (e2_fa (cs_b156 hen l hh) e2_fz)))))))))))))))))))))) (e2_fa ein_170 (e2_fa ein_173 (e2_fa ein_174 (e2_fa ein_178 (e2_fa ein_179 (e2_fa ein_180 (e2_fa ein_186 e2_fz))))))) (by decide) co_b157 ex2_187 ck_b157
/-! b158 X10_glyphHere -/
def as_b158 : List ev_V := [(2, 83, 0)]
def E_b158 : e2_E := [(2147483648, 2147583648, 0, 0), (2147483648, 2147483656, 1, 0), (2147483648, 2147485249, 2, 0)]
def bn1012 : e2_Q5 := (bn14, bn969)
def bn1013 : e2_Q6 := (bn1012, bn334)
def bn1014 : e2_Q7 := (bn1013, bn273)
def bn1015 : e2_Q8 := (bn1014, bn573)
noncomputable def f_b158 : ev_H := (bn1015 : e2_Q8)
noncomputable def q_b158_0 : ev_H := (bn1015 : e2_Q8)
noncomputable def rs_b158 : e2_Rs := [((0, 4294967295, 0), q_b158_0)]
noncomputable def s_b158 : e2_Sm := (190, as_b158, E_b158, f_b158, rs_b158)
noncomputable def S_b158 : List e2_Sm := [s_b101]
noncomputable def I_b158 : List e2_In := []
set_option maxRecDepth 1000000 in
theorem ck_b158 : e2_run (e2_cal S_b158 I_b158 4000 0) (e2_fin rs_b158) e2x_190 (fun _ => false) (fun _ _ _ _ _ => false) 4000 (e2_seek e2x_190 0) (e2_al 1 as_b158) [] E_b158 f_b158 = true := by decide +kernel
set_option maxRecDepth 1000000 in
theorem co_b158 : e2_okSB E_b158.length as_b158 f_b158 rs_b158 = true := by decide +kernel
theorem cs_b158 (hen : en_ok) (l : Launch) : e2_smOk l 2 s_b158 := e2_con0 (H := 1) (n := 0) (C := evd_190) (S := S_b158) (I := I_b158) (fuel := 4000) [] hen ei_190 (e2_fa (cs_b101 hen l) e2_fz) e2_fz (by decide) co_b158 ex2_190 ck_b158
/-! b159 X10_readGlyph -/
def as_b159 : List ev_V := [(2, 83, 0)]
def E_b159 : e2_E := [(2147483648, 2147583648, 0, 0), (2147483648, 2147483656, 1, 0), (2147483648, 2147485249, 2, 0)]
noncomputable def f_b159 : ev_H := (bn977 : e2_Q8)
def bc187 : ev_C := (50, [(1, 1, 4294967296), (0, 4, 0)])
def bn1016 : e2_Q1 := (bc187, bc3)
def bn1017 : e2_Q2 := (bn22, bn1016)
def bn1018 : e2_Q3 := (bn1017, bn27)
def bn1019 : e2_Q4 := (bn21, bn1018)
def bn1020 : e2_Q5 := (bn257, bn1019)
def bn1021 : e2_Q6 := (bn1020, bn266)
def bn1022 : e2_Q7 := (bn1021, bn687)
def bn1023 : e2_Q8 := (bn1022, bn708)
noncomputable def q_b159_0 : ev_H := (bn1023 : e2_Q8)
def bn1024 : e2_Q8 := (bn1022, bn713)
noncomputable def q_b159_1 : ev_H := (bn1024 : e2_Q8)
def bn1025 : e2_Q8 := (bn1022, bn718)
noncomputable def q_b159_2 : ev_H := (bn1025 : e2_Q8)
def bn1026 : e2_Q8 := (bn1022, bn723)
noncomputable def q_b159_3 : ev_H := (bn1026 : e2_Q8)
def bn1027 : e2_Q8 := (bn1022, bn696)
noncomputable def q_b159_4 : ev_H := (bn1027 : e2_Q8)
noncomputable def rs_b159 : e2_Rs := [((9, 0, 0), q_b159_0), ((9, 0, 0), q_b159_1), ((9, 0, 0), q_b159_2), ((9, 0, 0), q_b159_3), ((9, 0, 0), q_b159_4)]
noncomputable def s_b159 : e2_Sm := (196, as_b159, E_b159, f_b159, rs_b159)
noncomputable def S_b159 : List e2_Sm := [s_b27, s_b80, s_b81, s_b93, s_b94, s_b95, s_b96, s_b97, s_b100, s_b103, s_b104, s_b105, s_b106, s_b108, s_b110, s_b112, s_b114, s_b158]
noncomputable def I_b159 : List e2_In := [(179, 3, e2x_179)]
set_option maxRecDepth 1000000 in
theorem ck_b159 : e2_run (e2_cal S_b159 I_b159 4000 1) (e2_fin rs_b159) e2x_196 (fun _ => false) (fun _ _ _ _ _ => false) 4000 (e2_seek e2x_196 0) (e2_al 2 as_b159) [] E_b159 f_b159 = true := by decide +kernel
set_option maxRecDepth 1000000 in
theorem co_b159 : e2_okSB E_b159.length as_b159 f_b159 rs_b159 = true := by decide +kernel
theorem cs_b159 (hen : en_ok) (l : Launch) (hh : e2_hand_b l) : e2_smOk l 62 s_b159 := e2_con0 (H := 60) (n := 1) (C := evd_196) (S := S_b159) (I := I_b159) (fuel := 4000) [] hen ei_196 (e2_fa (hh _ hm_b27) (e2_fa ((cs_b80 hen l).mono (by decide)) (e2_fa ((cs_b81 hen l).mono (by decide)) (e2_fa ((cs_b93 hen l).mono (by decide)) (e2_fa ((cs_b94 hen l).mono (by decide)) (e2_fa ((cs_b95 hen l).mono (by decide)) (e2_fa ((cs_b96 hen l).mono (by decide)) (e2_fa ((cs_b97 hen l).mono (by decide)) (e2_fa ((cs_b100 hen l).mono (by decide)) (e2_fa ((cs_b103 hen l).mono (by decide)) (e2_fa ((cs_b104 hen l).mono (by decide)) (e2_fa ((cs_b105 hen l).mono (by decide)) (e2_fa ((cs_b106 hen l).mono (by decide)) (e2_fa ((cs_b108 hen l).mono (by decide)) (e2_fa ((cs_b110 hen l).mono (by decide)) (e2_fa ((cs_b112 hen l).mono (by decide)) (e2_fa ((cs_b114 hen l).mono (by decide)) (e2_fa ((cs_b158 hen l).mono (by decide)) e2_fz)))))))))))))))))) (e2_fa ein_179 e2_fz) (by decide) co_b159 ex2_196 ck_b159
/-! b160 X10_glyphHere -/
def as_b160 : List ev_V := [(2, 83, 0)]
def E_b160 : e2_E := [(2147483648, 2147583648, 0, 0), (2147483648, 2147483656, 1, 0), (2147483648, 2147485249, 2, 0)]
def bn1028 : e2_Q7 := (bn1013, bn727)
def bn1029 : e2_Q8 := (bn1028, bn729)
noncomputable def f_b160 : ev_H := (bn1029 : e2_Q8)
noncomputable def q_b160_0 : ev_H := (bn1029 : e2_Q8)
noncomputable def rs_b160 : e2_Rs := [((11, 2147483647, 2147483655), q_b160_0)]
noncomputable def s_b160 : e2_Sm := (190, as_b160, E_b160, f_b160, rs_b160)
noncomputable def S_b160 : List e2_Sm := [s_b117]
noncomputable def I_b160 : List e2_In := []
set_option maxRecDepth 1000000 in
theorem ck_b160 : e2_run (e2_cal S_b160 I_b160 4000 0) (e2_fin rs_b160) e2x_190 (fun _ => false) (fun _ _ _ _ _ => false) 4000 (e2_seek e2x_190 0) (e2_al 1 as_b160) [] E_b160 f_b160 = true := by decide +kernel
set_option maxRecDepth 1000000 in
theorem co_b160 : e2_okSB E_b160.length as_b160 f_b160 rs_b160 = true := by decide +kernel
theorem cs_b160 (hen : en_ok) (l : Launch) : e2_smOk l 2 s_b160 := e2_con0 (H := 1) (n := 0) (C := evd_190) (S := S_b160) (I := I_b160) (fuel := 4000) [] hen ei_190 (e2_fa (cs_b117 hen l) e2_fz) e2_fz (by decide) co_b160 ex2_190 ck_b160
/-! b161 X10_readGlyph -/
def as_b161 : List ev_V := [(2, 83, 0)]
def E_b161 : e2_E := [(2147483648, 2147583648, 0, 0), (2147483648, 2147483656, 1, 0), (2147483648, 2147485249, 2, 0)]
def bn1030 : e2_Q8 := (bn972, bn736)
noncomputable def f_b161 : ev_H := (bn1030 : e2_Q8)
noncomputable def q_b161_0 : ev_H := (bn1023 : e2_Q8)
noncomputable def q_b161_1 : ev_H := (bn1024 : e2_Q8)
noncomputable def q_b161_2 : ev_H := (bn1025 : e2_Q8)
noncomputable def q_b161_3 : ev_H := (bn1026 : e2_Q8)
noncomputable def q_b161_4 : ev_H := (bn1027 : e2_Q8)
noncomputable def rs_b161 : e2_Rs := [((9, 0, 0), q_b161_0), ((9, 0, 0), q_b161_1), ((9, 0, 0), q_b161_2), ((9, 0, 0), q_b161_3), ((9, 0, 0), q_b161_4)]
noncomputable def s_b161 : e2_Sm := (196, as_b161, E_b161, f_b161, rs_b161)
noncomputable def S_b161 : List e2_Sm := [s_b28, s_b29, s_b30, s_b80, s_b81, s_b93, s_b94, s_b95, s_b96, s_b97, s_b103, s_b104, s_b105, s_b106, s_b108, s_b110, s_b112, s_b114, s_b116, s_b160]
noncomputable def I_b161 : List e2_In := [(179, 3, e2x_179)]
set_option maxRecDepth 1000000 in
theorem ck_b161 : e2_run (e2_cal S_b161 I_b161 4000 1) (e2_fin rs_b161) e2x_196 (fun _ => false) (fun _ _ _ _ _ => false) 4000 (e2_seek e2x_196 0) (e2_al 2 as_b161) [] E_b161 f_b161 = true := by decide +kernel
set_option maxRecDepth 1000000 in
theorem co_b161 : e2_okSB E_b161.length as_b161 f_b161 rs_b161 = true := by decide +kernel
theorem cs_b161 (hen : en_ok) (l : Launch) (hh : e2_hand_b l) : e2_smOk l 62 s_b161 := e2_con0 (H := 60) (n := 1) (C := evd_196) (S := S_b161) (I := I_b161) (fuel := 4000) [] hen ei_196 (e2_fa (hh _ hm_b28) (e2_fa (hh _ hm_b29) (e2_fa (hh _ hm_b30) (e2_fa ((cs_b80 hen l).mono (by decide)) (e2_fa ((cs_b81 hen l).mono (by decide)) (e2_fa ((cs_b93 hen l).mono (by decide)) (e2_fa ((cs_b94 hen l).mono (by decide)) (e2_fa ((cs_b95 hen l).mono (by decide)) (e2_fa ((cs_b96 hen l).mono (by decide)) (e2_fa ((cs_b97 hen l).mono (by decide)) (e2_fa ((cs_b103 hen l).mono (by decide)) (e2_fa ((cs_b104 hen l).mono (by decide)) (e2_fa ((cs_b105 hen l).mono (by decide)) (e2_fa ((cs_b106 hen l).mono (by decide)) (e2_fa ((cs_b108 hen l).mono (by decide)) (e2_fa ((cs_b110 hen l).mono (by decide)) (e2_fa ((cs_b112 hen l).mono (by decide)) (e2_fa ((cs_b114 hen l).mono (by decide)) (e2_fa ((cs_b116 hen l).mono (by decide)) (e2_fa ((cs_b160 hen l).mono (by decide)) e2_fz)))))))))))))))))))) (e2_fa ein_179 e2_fz) (by decide) co_b161 ex2_196 ck_b161
/-! b162 X10_readNever -/
def as_b162 : List ev_V := [(2, 83, 0)]
def E_b162 : e2_E := [(2147483648, 2147583648, 0, 0), (2147483648, 2147483656, 1, 0), (2147483648, 2147485249, 2, 0)]
noncomputable def f_b162 : ev_H := (bn1015 : e2_Q8)
def bn1031 : e2_Q8 := (bn1014, bn555)
noncomputable def q_b162_0 : ev_H := (bn1031 : e2_Q8)
noncomputable def rs_b162 : e2_Rs := [((9, 0, 0), q_b162_0)]
noncomputable def s_b162 : e2_Sm := (197, as_b162, E_b162, f_b162, rs_b162)
noncomputable def S_b162 : List e2_Sm := [s_b103, s_b158]
noncomputable def I_b162 : List e2_In := [(174, 1, e2x_174)]
set_option maxRecDepth 1000000 in
theorem ck_b162 : e2_run (e2_cal S_b162 I_b162 4000 1) (e2_fin rs_b162) e2x_197 (fun _ => false) (fun _ _ _ _ _ => false) 4000 (e2_seek e2x_197 0) (e2_al 3 as_b162) [] E_b162 f_b162 = true := by decide +kernel
set_option maxRecDepth 1000000 in
theorem co_b162 : e2_okSB E_b162.length as_b162 f_b162 rs_b162 = true := by decide +kernel
theorem cs_b162 (hen : en_ok) (l : Launch) : e2_smOk l 5 s_b162 := e2_con0 (H := 3) (n := 1) (C := evd_197) (S := S_b162) (I := I_b162) (fuel := 4000) [] hen ei_197 (e2_fa (cs_b103 hen l) (e2_fa ((cs_b158 hen l).mono (by decide)) e2_fz)) (e2_fa ein_174 e2_fz) (by decide) co_b162 ex2_197 ck_b162
/-! b163 X10_readNever -/
def as_b163 : List ev_V := [(2, 83, 0)]
def E_b163 : e2_E := [(2147483648, 2147583648, 0, 0), (2147483648, 2147483656, 1, 0), (2147483648, 2147485249, 2, 0)]
def bn1032 : e2_Q6 := (bn1012, bn739)
def bn1033 : e2_Q7 := (bn1032, bn727)
def bn1034 : e2_Q8 := (bn1033, bn743)
noncomputable def f_b163 : ev_H := (bn1034 : e2_Q8)
def bn1035 : e2_Q8 := (bn1033, bn745)
noncomputable def q_b163_0 : ev_H := (bn1035 : e2_Q8)
def bn1036 : e2_Q8 := (bn1033, bn747)
noncomputable def q_b163_1 : ev_H := (bn1036 : e2_Q8)
def bn1037 : e2_Q8 := (bn1033, bn749)
noncomputable def q_b163_2 : ev_H := (bn1037 : e2_Q8)
def bn1038 : e2_Q8 := (bn1033, bn751)
noncomputable def q_b163_3 : ev_H := (bn1038 : e2_Q8)
noncomputable def rs_b163 : e2_Rs := [((9, 0, 0), q_b163_0), ((9, 0, 0), q_b163_1), ((9, 0, 0), q_b163_2), ((9, 0, 0), q_b163_3)]
noncomputable def s_b163 : e2_Sm := (197, as_b163, E_b163, f_b163, rs_b163)
noncomputable def S_b163 : List e2_Sm := [s_b103, s_b121, s_b122, s_b158, s_b160]
noncomputable def I_b163 : List e2_In := [(173, 3, e2x_173), (174, 1, e2x_174)]
set_option maxRecDepth 1000000 in
theorem ck_b163 : e2_run (e2_cal S_b163 I_b163 4000 1) (e2_fin rs_b163) e2x_197 (fun _ => false) (fun _ _ _ _ _ => false) 4000 (e2_seek e2x_197 0) (e2_al 3 as_b163) [] E_b163 f_b163 = true := by decide +kernel
set_option maxRecDepth 1000000 in
theorem co_b163 : e2_okSB E_b163.length as_b163 f_b163 rs_b163 = true := by decide +kernel
theorem cs_b163 (hen : en_ok) (l : Launch) : e2_smOk l 8 s_b163 := e2_con0 (H := 6) (n := 1) (C := evd_197) (S := S_b163) (I := I_b163) (fuel := 4000) [] hen ei_197 (e2_fa ((cs_b103 hen l).mono (by decide)) (e2_fa (cs_b121 hen l) (e2_fa ((cs_b122 hen l).mono (by decide)) (e2_fa ((cs_b158 hen l).mono (by decide)) (e2_fa ((cs_b160 hen l).mono (by decide)) e2_fz))))) (e2_fa ein_173 (e2_fa ein_174 e2_fz)) (by decide) co_b163 ex2_197 ck_b163
/-! b164 X10_readLine -/
def as_b164 : List ev_V := [(2, 83, 0)]
def E_b164 : e2_E := [(2147483648, 2147583648, 0, 0), (2147483648, 2147483656, 1, 0), (2147483648, 2147485249, 2, 0)]
def bn1039 : e2_Q8 := (bn993, bn824)
noncomputable def f_b164 : ev_H := (bn1039 : e2_Q8)
noncomputable def q_b164_0 : ev_H := (bn1008 : e2_Q8)
noncomputable def q_b164_1 : ev_H := (bn1007 : e2_Q8)
noncomputable def q_b164_2 : ev_H := (bn1009 : e2_Q8)
noncomputable def q_b164_3 : ev_H := (bn1010 : e2_Q8)
noncomputable def q_b164_4 : ev_H := (bn998 : e2_Q8)
def bn1040 : e2_Q4 := (bn350, bn1018)
def bn1041 : e2_Q5 := (bn257, bn1040)
def bn1042 : e2_Q6 := (bn1041, bn805)
def bn1043 : e2_Q7 := (bn1042, bn812)
def bn1044 : e2_Q8 := (bn1043, bn856)
noncomputable def q_b164_5 : ev_H := (bn1044 : e2_Q8)
def bn1045 : e2_Q8 := (bn1043, bn859)
noncomputable def q_b164_6 : ev_H := (bn1045 : e2_Q8)
def bn1046 : e2_Q8 := (bn1043, bn862)
noncomputable def q_b164_7 : ev_H := (bn1046 : e2_Q8)
def bn1047 : e2_Q8 := (bn1043, bn865)
noncomputable def q_b164_8 : ev_H := (bn1047 : e2_Q8)
def bn1048 : e2_Q8 := (bn1043, bn849)
noncomputable def q_b164_9 : ev_H := (bn1048 : e2_Q8)
noncomputable def rs_b164 : e2_Rs := [((9, 0, 0), q_b164_0), ((9, 0, 0), q_b164_1), ((9, 0, 0), q_b164_2), ((9, 0, 0), q_b164_3), ((9, 0, 0), q_b164_4), ((9, 0, 0), q_b164_5), ((9, 0, 0), q_b164_6), ((9, 0, 0), q_b164_7), ((9, 0, 0), q_b164_8), ((9, 0, 0), q_b164_9)]
noncomputable def s_b164 : e2_Sm := (187, as_b164, E_b164, f_b164, rs_b164)
noncomputable def S_b164 : List e2_Sm := [s_b74, s_b76, s_b77, s_b78, s_b79, s_b80, s_b81, s_b82, s_b83, s_b84, s_b85, s_b86, s_b98, s_b99, s_b124, s_b125, s_b126, s_b129, s_b159, s_b161, s_b162, s_b163]
noncomputable def I_b164 : List e2_In := [(170, 2, e2x_170), (173, 3, e2x_173), (174, 1, e2x_174), (178, 2, e2x_178), (179, 3, e2x_179), (180, 1, e2x_180), (186, 1, e2x_186)]
set_option maxRecDepth 1000000 in
theorem ck_b164 : e2_run (e2_cal S_b164 I_b164 4000 2) (e2_fin rs_b164) e2x_187 (fun _ => false) (fun _ _ _ _ _ => false) 4000 (e2_seek e2x_187 0) (e2_al 3 as_b164) [] E_b164 f_b164 = true := by decide +kernel
set_option maxRecDepth 1000000 in
theorem co_b164 : e2_okSB E_b164.length as_b164 f_b164 rs_b164 = true := by decide +kernel
theorem cs_b164 (hen : en_ok) (l : Launch) (hh : e2_hand_b l) : e2_smOk l 65 s_b164 := e2_con0 (H := 62) (n := 2) (C := evd_187) (S := S_b164) (I := I_b164) (fuel := 4000) [] hen ei_187 (e2_fa ((cs_b74 hen l).mono (by decide)) (e2_fa ((cs_b76 hen l).mono (by decide)) (e2_fa ((cs_b77 hen l).mono (by decide)) (e2_fa ((cs_b78 hen l).mono (by decide)) (e2_fa ((cs_b79 hen l).mono (by decide)) (e2_fa ((cs_b80 hen l).mono (by decide)) (e2_fa ((cs_b81 hen l).mono (by decide)) (e2_fa ((cs_b82 hen l).mono (by decide)) (e2_fa ((cs_b83 hen l).mono (by decide)) (e2_fa ((cs_b84 hen l).mono (by decide)) (e2_fa ((cs_b85 hen l).mono (by decide)) (e2_fa ((cs_b86 hen l).mono (by decide)) (e2_fa ((cs_b98 hen l).mono (by decide)) (e2_fa ((cs_b99 hen l).mono (by decide)) (e2_fa ((cs_b124 hen l hh).mono (by decide)) (e2_fa ((cs_b125 hen l hh).mono (by decide)) (e2_fa ((cs_b126 hen l).mono (by decide)) (e2_fa ((cs_b129 hen l).mono (by decide)) (e2_fa (cs_b159 hen l hh) (e2_fa (cs_b161 hen l hh) (e2_fa ((cs_b162 hen l).mono (by decide)) (e2_fa ((cs_b163 hen l).mono (by decide)) e2_fz)))))))))))))))))))))) (e2_fa ein_170 (e2_fa ein_173 (e2_fa ein_174 (e2_fa ein_178 (e2_fa ein_179 (e2_fa ein_180 (e2_fa ein_186 e2_fz))))))) (by decide) co_b164 ex2_187 ck_b164
