/-! CONTRACTS a, printed by a program -/
/-! a218 X9_feed -/
def as_a218 : List ev_V := [(2, 0, 0), (11, 0, 4294967295), (11, 0, 4294967295), (11, 0, 4294967295), (11, 0, 4294967295), (11, 0, 4294967295)]
def E_a218 : e2_E := [(2147483648, 2147583648, 0, 0)]
def ac182 : ev_C := (9, [(2, 1, 0), (2, 36, 0), (2, 47, 0), (2, 59, 0), (2, 44, 0), (2, 77, 0), (2, 40, 0), (2, 33, 0), (2, 17, 0)])
def an958 : e2_Q1 := (ac182, ac1)
def an959 : e2_Q2 := (an958, an1)
def an960 : e2_Q3 := (an959, an5)
def an961 : e2_Q4 := (an960, an13)
def an962 : e2_Q5 := (an961, an29)
def an963 : e2_Q6 := (an962, an61)
def an964 : e2_Q7 := (an963, an125)
def ac183 : ev_C := (3, [(2, 34, 0), (7, 0, 0), (11, 2147483648, 2147485248), (11, 2147483648, 2147483649), (11, 0, 4294967295), (11, 0, 4294967295), (11, 0, 4294967295), (11, 0, 4294967295)])
def an965 : e2_Q1 := (ac183, ac3)
def an966 : e2_Q2 := (an965, an131)
def an967 : e2_Q3 := (an129, an966)
def an968 : e2_Q4 := (an967, an140)
def an969 : e2_Q5 := (an968, an156)
def an970 : e2_Q6 := (an969, an188)
def an971 : e2_Q7 := (an970, an252)
def an972 : e2_Q8 := (an964, an971)
noncomputable def f_a218 : ev_H := (an972 : e2_Q8)
noncomputable def q_a218_0 : ev_H := (an972 : e2_Q8)
noncomputable def rs_a218 : e2_Rs := [((11, 2147483647, 2147485248), q_a218_0)]
noncomputable def s_a218 : e2_Sm := (123, as_a218, E_a218, f_a218, rs_a218)
noncomputable def S_a218 : List e2_Sm := [s_a215]
noncomputable def I_a218 : List e2_In := [(104, 2, e2x_104)]
set_option maxRecDepth 1000000 in
theorem ck_a218 : e2_run (e2_cal S_a218 I_a218 4000 1) (e2_fin rs_a218) e2x_123 (fun _ => false) (fun _ _ _ _ _ => false) 4000 (e2_seek e2x_123 0) (e2_al 7 as_a218) [] E_a218 f_a218 = true := by decide +kernel
set_option maxRecDepth 1000000 in
theorem co_a218 : e2_okSB E_a218.length as_a218 f_a218 rs_a218 = true := by decide +kernel
theorem cs_a218 (hen : en_ok) (l : Launch) : e2_smOk l 3 s_a218 := e2_con0 (H := 1) (n := 1) (C := evd_123) (S := S_a218) (I := I_a218) (fuel := 4000) [] hen ei_123 (e2_fa (cs_a215 hen l) e2_fz) (e2_fa ein_104 e2_fz) (by decide) co_a218 ck_a218
/-! a219 X9_readAll -/
def as_a219 : List ev_V := [(2, 0, 0), (2, 36, 0)]
def E_a219 : e2_E := [(2147483648, 2147583648, 0, 0)]
def an973 : e2_Q4 := (an960, an804)
def an974 : e2_Q5 := (an973, an869)
def an975 : e2_Q6 := (an974, an827)
def an976 : e2_Q7 := (an975, an893)
def an977 : e2_Q5 := (an812, an897)
def an978 : e2_Q4 := (an836, an302)
def an979 : e2_Q5 := (an978, an365)
def an980 : e2_Q6 := (an977, an979)
def an981 : e2_Q4 := (an557, an881)
def an982 : e2_Q5 := (an981, an336)
def an983 : e2_Q6 := (an840, an982)
def an984 : e2_Q7 := (an980, an983)
def an985 : e2_Q8 := (an976, an984)
noncomputable def f_a219 : ev_H := (an985 : e2_Q8)
def an986 : e2_Q5 := (an981, an322)
def an987 : e2_Q6 := (an840, an986)
def an988 : e2_Q7 := (an980, an987)
def an989 : e2_Q8 := (an976, an988)
noncomputable def q_a219_0 : ev_H := (an989 : e2_Q8)
noncomputable def rs_a219 : e2_Rs := [((11, 0, 4294967295), q_a219_0)]
noncomputable def s_a219 : e2_Sm := (166, as_a219, E_a219, f_a219, rs_a219)
noncomputable def S_a219 : List e2_Sm := [s_a204, s_a208]
noncomputable def I_a219 : List e2_In := []
set_option maxRecDepth 1000000 in
theorem ck_a219 : e2_run (e2_cal S_a219 I_a219 4000 0) (e2_fin rs_a219) e2x_166 (fun _ => false) (fun _ _ _ _ _ => false) 4000 (e2_seek e2x_166 0) (e2_al 3 as_a219) [] E_a219 f_a219 = true := by decide +kernel
set_option maxRecDepth 1000000 in
theorem co_a219 : e2_okSB E_a219.length as_a219 f_a219 rs_a219 = true := by decide +kernel
theorem cs_a219 (hen : en_ok) (l : Launch) : e2_smOk l 8 s_a219 := e2_con0 (H := 7) (n := 0) (C := evd_166) (S := S_a219) (I := I_a219) (fuel := 4000) [] hen ei_166 (e2_fa ((cs_a204 hen l).mono (by decide)) (e2_fa (cs_a208 hen l) e2_fz)) e2_fz (by decide) co_a219 ck_a219
/-! a220 X9_takeNow -/
def as_a220 : List ev_V := [(2, 0, 0)]
def E_a220 : e2_E := [(2147483648, 2147583648, 0, 0)]
def an990 : e2_Q4 := (an537, an825)
def an991 : e2_Q2 := (an350, an259)
def an992 : e2_Q3 := (an991, an51)
def an993 : e2_Q4 := (an992, an59)
def an994 : e2_Q5 := (an990, an993)
def an995 : e2_Q6 := (an974, an994)
def an996 : e2_Q4 := (an890, an272)
def an997 : e2_Q5 := (an270, an996)
def an998 : e2_Q3 := (an278, an830)
def an999 : e2_Q4 := (an277, an998)
def an1000 : e2_Q5 := (an999, an123)
def an1001 : e2_Q6 := (an997, an1000)
def an1002 : e2_Q7 := (an995, an1001)
def an1003 : e2_Q3 := (an289, an358)
def an1004 : e2_Q4 := (an287, an1003)
def an1005 : e2_Q4 := (an896, an294)
def an1006 : e2_Q5 := (an1004, an1005)
def an1007 : e2_Q3 := (an617, an550)
def an1008 : e2_Q4 := (an1007, an302)
def an1009 : e2_Q5 := (an1008, an365)
def an1010 : e2_Q6 := (an1006, an1009)
def an1011 : e2_Q2 := (an368, an292)
def an1012 : e2_Q3 := (an1011, an210)
def an1013 : e2_Q4 := (an1012, an218)
def an1014 : e2_Q5 := (an311, an1013)
def an1015 : e2_Q4 := (an660, an881)
def an1016 : e2_Q5 := (an1015, an336)
def an1017 : e2_Q6 := (an1014, an1016)
def an1018 : e2_Q7 := (an1010, an1017)
def an1019 : e2_Q8 := (an1002, an1018)
noncomputable def f_a220 : ev_H := (an1019 : e2_Q8)
def an1020 : e2_Q5 := (an1015, an322)
def an1021 : e2_Q6 := (an1014, an1020)
def an1022 : e2_Q7 := (an1010, an1021)
def an1023 : e2_Q8 := (an1002, an1022)
noncomputable def q_a220_0 : ev_H := (an1023 : e2_Q8)
noncomputable def rs_a220 : e2_Rs := [((11, 2147483648, 2147483649), q_a220_0)]
noncomputable def s_a220 : e2_Sm := (167, as_a220, E_a220, f_a220, rs_a220)
noncomputable def S_a220 : List e2_Sm := [s_a3, s_a219]
noncomputable def I_a220 : List e2_In := []
set_option maxRecDepth 1000000 in
theorem ck_a220 : e2_run (e2_cal S_a220 I_a220 4000 0) (e2_fin rs_a220) e2x_167 (fun _ => false) (fun _ _ _ _ _ => false) 4000 (e2_seek e2x_167 0) (e2_al 1 as_a220) [] E_a220 f_a220 = true := by decide +kernel
set_option maxRecDepth 1000000 in
theorem co_a220 : e2_okSB E_a220.length as_a220 f_a220 rs_a220 = true := by decide +kernel
theorem cs_a220 (hen : en_ok) (l : Launch) (hh : e2_hand_a l) : e2_smOk l 61 s_a220 := e2_con0 (H := 60) (n := 0) (C := evd_167) (S := S_a220) (I := I_a220) (fuel := 4000) [] hen ei_167 (e2_fa (hh _ hm_a3) (e2_fa ((cs_a219 hen l).mono (by decide)) e2_fz)) e2_fz (by decide) co_a220 ck_a220
/-! a221 X9_glyph -/
def as_a221 : List ev_V := [(2, 0, 0), (11, 0, 4294967295), (11, 0, 4294967295)]
def E_a221 : e2_E := [(2147483648, 2147583648, 0, 0)]
def an1024 : e2_Q4 := (an625, an868)
def an1025 : e2_Q5 := (an973, an1024)
def an1026 : e2_Q6 := (an1025, an994)
def an1027 : e2_Q7 := (an1026, an1001)
def an1028 : e2_Q8 := (an1027, an1018)
noncomputable def f_a221 : ev_H := (an1028 : e2_Q8)
noncomputable def q_a221_0 : ev_H := (an1028 : e2_Q8)
noncomputable def rs_a221 : e2_Rs := [((11, 0, 4294967295), q_a221_0)]
noncomputable def s_a221 : e2_Sm := (128, as_a221, E_a221, f_a221, rs_a221)
noncomputable def S_a221 : List e2_Sm := [s_a211, s_a220]
noncomputable def I_a221 : List e2_In := [(162, 2, e2x_162)]
set_option maxRecDepth 1000000 in
theorem ck_a221 : e2_run (e2_cal S_a221 I_a221 4000 1) (e2_fin rs_a221) e2x_128 (fun _ => false) (fun _ _ _ _ _ => false) 4000 (e2_seek e2x_128 0) (e2_al 3 as_a221) [] E_a221 f_a221 = true := by decide +kernel
set_option maxRecDepth 1000000 in
theorem co_a221 : e2_okSB E_a221.length as_a221 f_a221 rs_a221 = true := by decide +kernel
theorem cs_a221 (hen : en_ok) (l : Launch) (hh : e2_hand_a l) : e2_smOk l 63 s_a221 := e2_con0 (H := 61) (n := 1) (C := evd_128) (S := S_a221) (I := I_a221) (fuel := 4000) [] hen ei_128 (e2_fa ((cs_a211 hen l).mono (by decide)) (e2_fa (cs_a220 hen l hh) e2_fz)) (e2_fa ein_162 e2_fz) (by decide) co_a221 ck_a221
/-! a222 X9_plot -/
def as_a222 : List ev_V := [(2, 0, 0), (11, 0, 4294967295), (11, 0, 4294967295)]
def E_a222 : e2_E := [(2147483648, 2147583648, 0, 0)]
def an1029 : e2_Q3 := (an276, an924)
def an1030 : e2_Q4 := (an1029, an998)
def an1031 : e2_Q5 := (an1030, an123)
def an1032 : e2_Q6 := (an997, an1031)
def an1033 : e2_Q7 := (an995, an1032)
def an1034 : e2_Q8 := (an1033, an1018)
noncomputable def f_a222 : ev_H := (an1034 : e2_Q8)
noncomputable def q_a222_0 : ev_H := (an1034 : e2_Q8)
noncomputable def rs_a222 : e2_Rs := [((11, 0, 4294967295), q_a222_0)]
noncomputable def s_a222 : e2_Sm := (129, as_a222, E_a222, f_a222, rs_a222)
noncomputable def S_a222 : List e2_Sm := [s_a212, s_a220]
noncomputable def I_a222 : List e2_In := [(159, 2, e2x_159), (163, 2, e2x_163)]
set_option maxRecDepth 1000000 in
theorem ck_a222 : e2_run (e2_cal S_a222 I_a222 4000 1) (e2_fin rs_a222) e2x_129 (fun _ => false) (fun _ _ _ _ _ => false) 4000 (e2_seek e2x_129 0) (e2_al 4 as_a222) [] E_a222 f_a222 = true := by decide +kernel
set_option maxRecDepth 1000000 in
theorem co_a222 : e2_okSB E_a222.length as_a222 f_a222 rs_a222 = true := by decide +kernel
theorem cs_a222 (hen : en_ok) (l : Launch) (hh : e2_hand_a l) : e2_smOk l 63 s_a222 := e2_con0 (H := 61) (n := 1) (C := evd_129) (S := S_a222) (I := I_a222) (fuel := 4000) [] hen ei_129 (e2_fa ((cs_a212 hen l).mono (by decide)) (e2_fa (cs_a220 hen l hh) e2_fz)) (e2_fa ein_159 (e2_fa ein_163 e2_fz)) (by decide) co_a222 ck_a222
/-! a223 X9_passYear -/
def as_a223 : List ev_V := [(2, 0, 0), (2, 36, 0)]
def E_a223 : e2_E := [(2147483648, 2147583648, 0, 0)]
def an1035 : e2_Q3 := (an376, an803)
def an1036 : e2_Q4 := (an960, an1035)
def an1037 : e2_Q5 := (an1036, an1024)
def an1038 : e2_Q6 := (an1037, an994)
def an1039 : e2_Q5 := (an1030, an384)
def an1040 : e2_Q6 := (an997, an1039)
def an1041 : e2_Q7 := (an1038, an1040)
def an1042 : e2_Q3 := (an659, an388)
def an1043 : e2_Q4 := (an1042, an881)
def an1044 : e2_Q3 := (an391, an334)
def an1045 : e2_Q4 := (an1044, an249)
def an1046 : e2_Q5 := (an1043, an1045)
def an1047 : e2_Q6 := (an1014, an1046)
def an1048 : e2_Q7 := (an1010, an1047)
def an1049 : e2_Q8 := (an1041, an1048)
noncomputable def f_a223 : ev_H := (an1049 : e2_Q8)
def an1050 : e2_Q3 := (an391, an320)
def an1051 : e2_Q4 := (an1050, an249)
def an1052 : e2_Q5 := (an1043, an1051)
def an1053 : e2_Q6 := (an1014, an1052)
def an1054 : e2_Q7 := (an1010, an1053)
def an1055 : e2_Q8 := (an1041, an1054)
noncomputable def q_a223_0 : ev_H := (an1055 : e2_Q8)
noncomputable def rs_a223 : e2_Rs := [((11, 2147483647, 2147483668), q_a223_0)]
noncomputable def s_a223 : e2_Sm := (168, as_a223, E_a223, f_a223, rs_a223)
noncomputable def S_a223 : List e2_Sm := [s_a3, s_a213, s_a219]
noncomputable def I_a223 : List e2_In := [(102, 3, e2x_102), (160, 2, e2x_160)]
set_option maxRecDepth 1000000 in
theorem co_a223 : e2_okSB E_a223.length as_a223 f_a223 rs_a223 = true := by decide +kernel
def al_a223_0 : List ev_V := [(2, 0, 0), (2, 36, 0), (11, 2147483648, 2147483668), (1, 1, 4294967296), (9, 0, 0)]
def E_a223_0 : e2_E := [(2147483648, 2147583648, 0, 0), (2147483648, 2147483668, 1, 0)]
noncomputable def h_a223_0 : ev_H := (an1055 : e2_Q8)
noncomputable def cl_a223_e : List (Nat × e2_S) := [(30, e2_cutL (al_a223_0.set 3 (11, 2147483648, 2147483668)) 1 (E_a223_0.take 1) h_a223_0)]
set_option maxRecDepth 1000000 in
theorem ck_a223_e : e2_run (e2_cal S_a223 I_a223 4000 2) (e2_fin rs_a223) e2x_168 (e2_bpL cl_a223_e) (e2_cutA cl_a223_e) 4000 (e2_seek e2x_168 0) (e2_al 5 as_a223) [] E_a223 f_a223 = true := by decide +kernel
noncomputable def cl_a223_0 : List (Nat × e2_S) := [(30, e2_cutL (al_a223_0.set 3 (13, 9, 2147483668)) 1 (E_a223_0.take 1) h_a223_0)]
set_option maxRecDepth 1000000 in
theorem ck_a223_0 : e2_runM (e2_cal S_a223 I_a223 4000 2) (e2_fin rs_a223) e2x_168 (e2_bpL cl_a223_0) (e2_cutA cl_a223_0) 4000 (e2_seek e2x_168 30) al_a223_0 [] E_a223_0 h_a223_0 = true := by decide +kernel
set_option maxRecDepth 1000000 in
theorem ci_a223_0 : e2_idl 1 (al_a223_0.set 3 (9, 0, 0)) = true := by decide +kernel
set_option maxRecDepth 1000000 in
theorem cj_a223_0 : e2_idh 1 8 h_a223_0 = true := by decide +kernel
theorem cs_a223 (hen : en_ok) (l : Launch) (hh : e2_hand_a l) : e2_smOk l 63 s_a223 := by
  refine e2_conG (H := 60) (n := 2) (C := evd_168) (S := S_a223) (I := I_a223) (fuel := 4000) hen ei_168 (e2_fa (hh _ hm_a3) (e2_fa ((cs_a213 hen l).mono (by decide)) (e2_fa ((cs_a219 hen l).mono (by decide)) e2_fz))) (e2_fa ein_102 (e2_fa ein_160 e2_fz)) (by decide) co_a223 fun M d _ hC hcall p e R s m args below meth c Q D cA A ads r0 ha hl0 => ?_
  have L_0 : e2_gdM M p l e R s m args below meth c Q D cA A ads r0 30 al_a223_0 [] E_a223_0 h_a223_0 := by
    refine e2_indL (u := 1) (j := 3) (lo := 2147483648) (hi := 2147483668) (b := 1) (dd := 0) hl0 (by decide) rfl rfl (Or.inr ⟨rfl, rfl⟩) rfl ci_a223_0 cj_a223_0 ?_
    intro r_0 k_0 hk_0 hp_0 hs_0 hn_0
    have hl_0 : r_0.length ≤ 2 := hs_0.len rfl
    have ha_0 := ha.ext hp_0
    exact e2_fromM hen ha_0 hcall (e2_cutA_ok (e2_fa (fun al st E h hc => hn_0 al st E h hc) e2_fz)) (hC []) (X := e2x_168) rfl 30 ck_a223_0
  have EN_0 := e2_entL (u := 1) (j := 3) (lo := 2147483648) (hi := 2147483668) hl0 rfl rfl rfl ci_a223_0 cj_a223_0 L_0
  exact e2_from hen ha hcall (e2_cutA_ok (e2_fa (fun al st E h hc => EN_0 al st E h hc) e2_fz)) (hC []) (X := e2x_168) rfl 0 ck_a223_e
/-! a224 X9_year -/
def as_a224 : List ev_V := [(2, 0, 0)]
def E_a224 : e2_E := [(2147483648, 2147583648, 0, 0)]
def ac184 : ev_C := (2, [(11, 0, 4294967295), (2, 45, 0), (11, 0, 4294967295), (11, 0, 4294967295), (2, 46, 0), (11, 0, 4294967295)])
def an1056 : e2_Q1 := (ac184, ac3)
def an1057 : e2_Q2 := (an1056, an50)
def an1058 : e2_Q3 := (an991, an1057)
def an1059 : e2_Q4 := (an1058, an59)
def an1060 : e2_Q5 := (an990, an1059)
def an1061 : e2_Q6 := (an1037, an1060)
def an1062 : e2_Q7 := (an1061, an1040)
def ac185 : ev_C := (54, [(0, 1107, 0), (11, 0, 4294967295)])
def an1063 : e2_Q1 := (ac185, ac3)
def an1064 : e2_Q2 := (an1063, an177)
def an1065 : e2_Q3 := (an363, an1064)
def an1066 : e2_Q4 := (an1065, an186)
def an1067 : e2_Q5 := (an1008, an1066)
def an1068 : e2_Q6 := (an1006, an1067)
def an1069 : e2_Q7 := (an1068, an1047)
def an1070 : e2_Q8 := (an1062, an1069)
noncomputable def f_a224 : ev_H := (an1070 : e2_Q8)
noncomputable def q_a224_0 : ev_H := (an1070 : e2_Q8)
noncomputable def rs_a224 : e2_Rs := [((11, 2147483646, 2147483668), q_a224_0)]
noncomputable def s_a224 : e2_Sm := (132, as_a224, E_a224, f_a224, rs_a224)
noncomputable def S_a224 : List e2_Sm := [s_a223]
noncomputable def I_a224 : List e2_In := [(9, 4, e2x_9), (35, 2, e2x_35), (36, 1, e2x_36)]
set_option maxRecDepth 1000000 in
theorem ck_a224 : e2_run (e2_cal S_a224 I_a224 4000 2) (e2_fin rs_a224) e2x_132 (fun _ => false) (fun _ _ _ _ _ => false) 4000 (e2_seek e2x_132 0) (e2_al 2 as_a224) [] E_a224 f_a224 = true := by decide +kernel
set_option maxRecDepth 1000000 in
theorem co_a224 : e2_okSB E_a224.length as_a224 f_a224 rs_a224 = true := by decide +kernel
theorem cs_a224 (hen : en_ok) (l : Launch) (hh : e2_hand_a l) : e2_smOk l 66 s_a224 := e2_con0 (H := 63) (n := 2) (C := evd_132) (S := S_a224) (I := I_a224) (fuel := 4000) [] hen ei_132 (e2_fa (cs_a223 hen l hh) e2_fz) (e2_fa ein_9 (e2_fa ein_35 (e2_fa ein_36 e2_fz))) (by decide) co_a224 ck_a224
/-! a225 X9_readings -/
def as_a225 : List ev_V := [(2, 0, 0)]
def E_a225 : e2_E := [(2147483648, 2147583648, 0, 0)]
noncomputable def f_a225 : ev_H := (an985 : e2_Q8)
noncomputable def q_a225_0 : ev_H := (an989 : e2_Q8)
noncomputable def rs_a225 : e2_Rs := [((11, 0, 4294967295), q_a225_0)]
noncomputable def s_a225 : e2_Sm := (135, as_a225, E_a225, f_a225, rs_a225)
noncomputable def S_a225 : List e2_Sm := [s_a219]
noncomputable def I_a225 : List e2_In := []
set_option maxRecDepth 1000000 in
theorem ck_a225 : e2_run (e2_cal S_a225 I_a225 4000 0) (e2_fin rs_a225) e2x_135 (fun _ => false) (fun _ _ _ _ _ => false) 4000 (e2_seek e2x_135 0) (e2_al 1 as_a225) [] E_a225 f_a225 = true := by decide +kernel
set_option maxRecDepth 1000000 in
theorem co_a225 : e2_okSB E_a225.length as_a225 f_a225 rs_a225 = true := by decide +kernel
theorem cs_a225 (hen : en_ok) (l : Launch) : e2_smOk l 9 s_a225 := e2_con0 (H := 8) (n := 0) (C := evd_135) (S := S_a225) (I := I_a225) (fuel := 4000) [] hen ei_135 (e2_fa (cs_a219 hen l) e2_fz) e2_fz (by decide) co_a225 ck_a225
/-! a226 X9_taken -/
def as_a226 : List ev_V := [(2, 0, 0)]
def E_a226 : e2_E := [(2147483648, 2147583648, 0, 0)]
def an1071 : e2_Q4 := (an992, an697)
def an1072 : e2_Q5 := (an990, an1071)
def an1073 : e2_Q6 := (an974, an1072)
def an1074 : e2_Q7 := (an1073, an1001)
def an1075 : e2_Q4 := (an1012, an568)
def an1076 : e2_Q5 := (an311, an1075)
def an1077 : e2_Q6 := (an1076, an1016)
def an1078 : e2_Q7 := (an1010, an1077)
def an1079 : e2_Q8 := (an1074, an1078)
noncomputable def f_a226 : ev_H := (an1079 : e2_Q8)
def an1080 : e2_Q6 := (an1076, an1020)
def an1081 : e2_Q7 := (an1010, an1080)
def an1082 : e2_Q8 := (an1074, an1081)
noncomputable def q_a226_0 : ev_H := (an1082 : e2_Q8)
noncomputable def rs_a226 : e2_Rs := [((11, 2147483647, 2147483668), q_a226_0)]
noncomputable def s_a226 : e2_Sm := (136, as_a226, E_a226, f_a226, rs_a226)
noncomputable def S_a226 : List e2_Sm := [s_a220]
noncomputable def I_a226 : List e2_In := [(63, 1, e2x_63), (64, 2, e2x_64)]
set_option maxRecDepth 1000000 in
theorem co_a226 : e2_okSB E_a226.length as_a226 f_a226 rs_a226 = true := by decide +kernel
def al_a226_0 : List ev_V := [(2, 0, 0), (1, 1, 4294967296)]
def E_a226_0 : e2_E := [(2147483648, 2147583648, 0, 0), (2147483648, 2147483668, 1, 0)]
noncomputable def h_a226_0 : ev_H := (an1082 : e2_Q8)
noncomputable def cl_a226_e : List (Nat × e2_S) := [(18, e2_cutL (al_a226_0.set 1 (11, 2147483648, 2147483668)) 1 (E_a226_0.take 1) h_a226_0)]
set_option maxRecDepth 1000000 in
theorem ck_a226_e : e2_run (e2_cal S_a226 I_a226 4000 1) (e2_fin rs_a226) e2x_136 (e2_bpL cl_a226_e) (e2_cutA cl_a226_e) 4000 (e2_seek e2x_136 0) (e2_al 2 as_a226) [] E_a226 f_a226 = true := by decide +kernel
noncomputable def cl_a226_0 : List (Nat × e2_S) := [(18, e2_cutL (al_a226_0.set 1 (13, 9, 2147483668)) 1 (E_a226_0.take 1) h_a226_0)]
set_option maxRecDepth 1000000 in
theorem ck_a226_0 : e2_runM (e2_cal S_a226 I_a226 4000 1) (e2_fin rs_a226) e2x_136 (e2_bpL cl_a226_0) (e2_cutA cl_a226_0) 4000 (e2_seek e2x_136 18) al_a226_0 [] E_a226_0 h_a226_0 = true := by decide +kernel
set_option maxRecDepth 1000000 in
theorem ci_a226_0 : e2_idl 1 (al_a226_0.set 1 (9, 0, 0)) = true := by decide +kernel
set_option maxRecDepth 1000000 in
theorem cj_a226_0 : e2_idh 1 8 h_a226_0 = true := by decide +kernel
theorem cs_a226 (hen : en_ok) (l : Launch) (hh : e2_hand_a l) : e2_smOk l 63 s_a226 := by
  refine e2_conG (H := 61) (n := 1) (C := evd_136) (S := S_a226) (I := I_a226) (fuel := 4000) hen ei_136 (e2_fa (cs_a220 hen l hh) e2_fz) (e2_fa ein_63 (e2_fa ein_64 e2_fz)) (by decide) co_a226 fun M d _ hC hcall p e R s m args below meth c Q D cA A ads r0 ha hl0 => ?_
  have L_0 : e2_gdM M p l e R s m args below meth c Q D cA A ads r0 18 al_a226_0 [] E_a226_0 h_a226_0 := by
    refine e2_indL (u := 1) (j := 1) (lo := 2147483648) (hi := 2147483668) (b := 1) (dd := 0) hl0 (by decide) rfl rfl (Or.inr ⟨rfl, rfl⟩) rfl ci_a226_0 cj_a226_0 ?_
    intro r_0 k_0 hk_0 hp_0 hs_0 hn_0
    have hl_0 : r_0.length ≤ 2 := hs_0.len rfl
    have ha_0 := ha.ext hp_0
    exact e2_fromM hen ha_0 hcall (e2_cutA_ok (e2_fa (fun al st E h hc => hn_0 al st E h hc) e2_fz)) (hC []) (X := e2x_136) rfl 18 ck_a226_0
  have EN_0 := e2_entL (u := 1) (j := 1) (lo := 2147483648) (hi := 2147483668) hl0 rfl rfl rfl ci_a226_0 cj_a226_0 L_0
  exact e2_from hen ha hcall (e2_cutA_ok (e2_fa (fun al st E h hc => EN_0 al st E h hc) e2_fz)) (hC []) (X := e2x_136) rfl 0 ck_a226_e
/-! a227 X9_weight -/
def as_a227 : List ev_V := [(2, 0, 0)]
def E_a227 : e2_E := [(2147483648, 2147583648, 0, 0)]
noncomputable def f_a227 : ev_H := (an985 : e2_Q8)
noncomputable def q_a227_0 : ev_H := (an989 : e2_Q8)
noncomputable def rs_a227 : e2_Rs := [((11, 0, 4294967295), q_a227_0)]
noncomputable def s_a227 : e2_Sm := (137, as_a227, E_a227, f_a227, rs_a227)
noncomputable def S_a227 : List e2_Sm := [s_a219]
noncomputable def I_a227 : List e2_In := [(89, 1, e2x_89), (90, 5, e2x_90)]
set_option maxRecDepth 1000000 in
theorem ck_a227 : e2_run (e2_cal S_a227 I_a227 4000 2) (e2_fin rs_a227) e2x_137 (fun _ => false) (fun _ _ _ _ _ => false) 4000 (e2_seek e2x_137 0) (e2_al 1 as_a227) [] E_a227 f_a227 = true := by decide +kernel
set_option maxRecDepth 1000000 in
theorem co_a227 : e2_okSB E_a227.length as_a227 f_a227 rs_a227 = true := by decide +kernel
theorem cs_a227 (hen : en_ok) (l : Launch) : e2_smOk l 11 s_a227 := e2_con0 (H := 8) (n := 2) (C := evd_137) (S := S_a227) (I := I_a227) (fuel := 4000) [] hen ei_137 (e2_fa (cs_a219 hen l) e2_fz) (e2_fa ein_89 (e2_fa ein_90 e2_fz)) (by decide) co_a227 ck_a227
/-! a228 X9_does -/
def as_a228 : List ev_V := [(2, 0, 0), (11, 0, 4294967295)]
def E_a228 : e2_E := [(2147483648, 2147583648, 0, 0)]
noncomputable def f_a228 : ev_H := (an1028 : e2_Q8)
noncomputable def q_a228_0 : ev_H := (an1028 : e2_Q8)
noncomputable def rs_a228 : e2_Rs := [((11, 0, 4294967295), q_a228_0)]
noncomputable def s_a228 : e2_Sm := (138, as_a228, E_a228, f_a228, rs_a228)
noncomputable def S_a228 : List e2_Sm := [s_a209, s_a220]
noncomputable def I_a228 : List e2_In := [(161, 2, e2x_161)]
set_option maxRecDepth 1000000 in
theorem ck_a228 : e2_run (e2_cal S_a228 I_a228 4000 1) (e2_fin rs_a228) e2x_138 (fun _ => false) (fun _ _ _ _ _ => false) 4000 (e2_seek e2x_138 0) (e2_al 2 as_a228) [] E_a228 f_a228 = true := by decide +kernel
set_option maxRecDepth 1000000 in
theorem co_a228 : e2_okSB E_a228.length as_a228 f_a228 rs_a228 = true := by decide +kernel
theorem cs_a228 (hen : en_ok) (l : Launch) (hh : e2_hand_a l) : e2_smOk l 63 s_a228 := e2_con0 (H := 61) (n := 1) (C := evd_138) (S := S_a228) (I := I_a228) (fuel := 4000) [] hen ei_138 (e2_fa ((cs_a209 hen l).mono (by decide)) (e2_fa (cs_a220 hen l hh) e2_fz)) (e2_fa ein_161 e2_fz) (by decide) co_a228 ck_a228
/-! a229 X9_readAll -/
def as_a229 : List ev_V := [(2, 0, 0), (2, 40, 0)]
def E_a229 : e2_E := [(2147483648, 2147583648, 0, 0)]
def an1083 : e2_Q4 := (an851, an868)
def an1084 : e2_Q5 := (an973, an1083)
def an1085 : e2_Q6 := (an1084, an855)
def an1086 : e2_Q7 := (an1085, an893)
def an1087 : e2_Q3 := (an895, an858)
def an1088 : e2_Q4 := (an1087, an155)
def an1089 : e2_Q5 := (an812, an1088)
def an1090 : e2_Q5 := (an899, an365)
def an1091 : e2_Q6 := (an1089, an1090)
def an1092 : e2_Q7 := (an1091, an983)
def an1093 : e2_Q8 := (an1086, an1092)
noncomputable def f_a229 : ev_H := (an1093 : e2_Q8)
def an1094 : e2_Q7 := (an1091, an987)
def an1095 : e2_Q8 := (an1086, an1094)
noncomputable def q_a229_0 : ev_H := (an1095 : e2_Q8)
noncomputable def rs_a229 : e2_Rs := [((11, 0, 4294967295), q_a229_0)]
noncomputable def s_a229 : e2_Sm := (166, as_a229, E_a229, f_a229, rs_a229)
noncomputable def S_a229 : List e2_Sm := [s_a205, s_a208]
noncomputable def I_a229 : List e2_In := []
set_option maxRecDepth 1000000 in
theorem ck_a229 : e2_run (e2_cal S_a229 I_a229 4000 0) (e2_fin rs_a229) e2x_166 (fun _ => false) (fun _ _ _ _ _ => false) 4000 (e2_seek e2x_166 0) (e2_al 3 as_a229) [] E_a229 f_a229 = true := by decide +kernel
set_option maxRecDepth 1000000 in
theorem co_a229 : e2_okSB E_a229.length as_a229 f_a229 rs_a229 = true := by decide +kernel
theorem cs_a229 (hen : en_ok) (l : Launch) : e2_smOk l 8 s_a229 := e2_con0 (H := 7) (n := 0) (C := evd_166) (S := S_a229) (I := I_a229) (fuel := 4000) [] hen ei_166 (e2_fa ((cs_a205 hen l).mono (by decide)) (e2_fa (cs_a208 hen l) e2_fz)) e2_fz (by decide) co_a229 ck_a229
/-! a230 X9_passYear -/
def as_a230 : List ev_V := [(2, 0, 0), (2, 40, 0)]
def E_a230 : e2_E := [(2147483648, 2147583648, 0, 0)]
def an1096 : e2_Q3 := (an624, an850)
def an1097 : e2_Q4 := (an1096, an868)
def an1098 : e2_Q5 := (an1036, an1097)
def an1099 : e2_Q4 := (an257, an825)
def an1100 : e2_Q5 := (an1099, an993)
def an1101 : e2_Q6 := (an1098, an1100)
def an1102 : e2_Q3 := (an889, an934)
def an1103 : e2_Q4 := (an1102, an272)
def an1104 : e2_Q5 := (an270, an1103)
def an1105 : e2_Q5 := (an999, an384)
def an1106 : e2_Q6 := (an1104, an1105)
def an1107 : e2_Q7 := (an1101, an1106)
def an1108 : e2_Q4 := (an1087, an294)
def an1109 : e2_Q5 := (an1004, an1108)
def an1110 : e2_Q5 := (an648, an365)
def an1111 : e2_Q6 := (an1109, an1110)
def an1112 : e2_Q3 := (an1011, an398)
def an1113 : e2_Q4 := (an1112, an218)
def an1114 : e2_Q5 := (an311, an1113)
def an1115 : e2_Q5 := (an1015, an1045)
def an1116 : e2_Q6 := (an1114, an1115)
def an1117 : e2_Q7 := (an1111, an1116)
def an1118 : e2_Q8 := (an1107, an1117)
noncomputable def f_a230 : ev_H := (an1118 : e2_Q8)
def an1119 : e2_Q5 := (an1015, an1051)
def an1120 : e2_Q6 := (an1114, an1119)
def an1121 : e2_Q7 := (an1111, an1120)
def an1122 : e2_Q8 := (an1107, an1121)
noncomputable def q_a230_0 : ev_H := (an1122 : e2_Q8)
noncomputable def rs_a230 : e2_Rs := [((11, 2147483647, 2147483668), q_a230_0)]
noncomputable def s_a230 : e2_Sm := (168, as_a230, E_a230, f_a230, rs_a230)
noncomputable def S_a230 : List e2_Sm := [s_a3, s_a214, s_a229]
noncomputable def I_a230 : List e2_In := [(102, 3, e2x_102), (160, 2, e2x_160)]
set_option maxRecDepth 1000000 in
theorem co_a230 : e2_okSB E_a230.length as_a230 f_a230 rs_a230 = true := by decide +kernel
def al_a230_0 : List ev_V := [(2, 0, 0), (2, 40, 0), (11, 2147483648, 2147483668), (1, 1, 4294967296), (9, 0, 0)]
def E_a230_0 : e2_E := [(2147483648, 2147583648, 0, 0), (2147483648, 2147483668, 1, 0)]
noncomputable def h_a230_0 : ev_H := (an1122 : e2_Q8)
noncomputable def cl_a230_e : List (Nat × e2_S) := [(30, e2_cutL (al_a230_0.set 3 (11, 2147483648, 2147483668)) 1 (E_a230_0.take 1) h_a230_0)]
set_option maxRecDepth 1000000 in
theorem ck_a230_e : e2_run (e2_cal S_a230 I_a230 4000 2) (e2_fin rs_a230) e2x_168 (e2_bpL cl_a230_e) (e2_cutA cl_a230_e) 4000 (e2_seek e2x_168 0) (e2_al 5 as_a230) [] E_a230 f_a230 = true := by decide +kernel
noncomputable def cl_a230_0 : List (Nat × e2_S) := [(30, e2_cutL (al_a230_0.set 3 (13, 9, 2147483668)) 1 (E_a230_0.take 1) h_a230_0)]
set_option maxRecDepth 1000000 in
theorem ck_a230_0 : e2_runM (e2_cal S_a230 I_a230 4000 2) (e2_fin rs_a230) e2x_168 (e2_bpL cl_a230_0) (e2_cutA cl_a230_0) 4000 (e2_seek e2x_168 30) al_a230_0 [] E_a230_0 h_a230_0 = true := by decide +kernel
set_option maxRecDepth 1000000 in
theorem ci_a230_0 : e2_idl 1 (al_a230_0.set 3 (9, 0, 0)) = true := by decide +kernel
set_option maxRecDepth 1000000 in
theorem cj_a230_0 : e2_idh 1 8 h_a230_0 = true := by decide +kernel
theorem cs_a230 (hen : en_ok) (l : Launch) (hh : e2_hand_a l) : e2_smOk l 63 s_a230 := by
  refine e2_conG (H := 60) (n := 2) (C := evd_168) (S := S_a230) (I := I_a230) (fuel := 4000) hen ei_168 (e2_fa (hh _ hm_a3) (e2_fa ((cs_a214 hen l).mono (by decide)) (e2_fa ((cs_a229 hen l).mono (by decide)) e2_fz))) (e2_fa ein_102 (e2_fa ein_160 e2_fz)) (by decide) co_a230 fun M d _ hC hcall p e R s m args below meth c Q D cA A ads r0 ha hl0 => ?_
  have L_0 : e2_gdM M p l e R s m args below meth c Q D cA A ads r0 30 al_a230_0 [] E_a230_0 h_a230_0 := by
    refine e2_indL (u := 1) (j := 3) (lo := 2147483648) (hi := 2147483668) (b := 1) (dd := 0) hl0 (by decide) rfl rfl (Or.inr ⟨rfl, rfl⟩) rfl ci_a230_0 cj_a230_0 ?_
    intro r_0 k_0 hk_0 hp_0 hs_0 hn_0
    have hl_0 : r_0.length ≤ 2 := hs_0.len rfl
    have ha_0 := ha.ext hp_0
    exact e2_fromM hen ha_0 hcall (e2_cutA_ok (e2_fa (fun al st E h hc => hn_0 al st E h hc) e2_fz)) (hC []) (X := e2x_168) rfl 30 ck_a230_0
  have EN_0 := e2_entL (u := 1) (j := 3) (lo := 2147483648) (hi := 2147483668) hl0 rfl rfl rfl ci_a230_0 cj_a230_0 L_0
  exact e2_from hen ha hcall (e2_cutA_ok (e2_fa (fun al st E h hc => EN_0 al st E h hc) e2_fz)) (hC []) (X := e2x_168) rfl 0 ck_a230_e
/-! a231 X9_goAhead -/
def as_a231 : List ev_V := [(2, 0, 0), (11, 0, 4294967295)]
def E_a231 : e2_E := [(2147483648, 2147583648, 0, 0)]
def an1123 : e2_Q6 := (an1098, an994)
def an1124 : e2_Q6 := (an1104, an1039)
def an1125 : e2_Q7 := (an1123, an1124)
def an1126 : e2_Q6 := (an1109, an1009)
def an1127 : e2_Q7 := (an1126, an1116)
def an1128 : e2_Q8 := (an1125, an1127)
noncomputable def f_a231 : ev_H := (an1128 : e2_Q8)
noncomputable def q_a231_0 : ev_H := (an1128 : e2_Q8)
noncomputable def rs_a231 : e2_Rs := [((11, 2147483648, 2147483649), q_a231_0)]
noncomputable def s_a231 : e2_Sm := (169, as_a231, E_a231, f_a231, rs_a231)
noncomputable def S_a231 : List e2_Sm := [s_a230]
noncomputable def I_a231 : List e2_In := [(99, 2, e2x_99)]
set_option maxRecDepth 1000000 in
theorem co_a231 : e2_okSB E_a231.length as_a231 f_a231 rs_a231 = true := by decide +kernel
def al_a231_0 : List ev_V := [(2, 0, 0), (11, 2147483648, 2147483708), (1, 1, 4294967296)]
def E_a231_0 : e2_E := [(2147483648, 2147583648, 0, 0), (2147483648, 2147483708, 1, 0)]
noncomputable def h_a231_0 : ev_H := (an1128 : e2_Q8)
noncomputable def cl_a231_e : List (Nat × e2_S) := [(25, e2_cutL (al_a231_0.set 2 (11, 2147483648, 2147483708)) 1 (E_a231_0.take 1) h_a231_0)]
set_option maxRecDepth 1000000 in
theorem ck_a231_e : e2_run (e2_cal S_a231 I_a231 4000 1) (e2_fin rs_a231) e2x_169 (e2_bpL cl_a231_e) (e2_cutA cl_a231_e) 4000 (e2_seek e2x_169 0) (e2_al 3 as_a231) [] E_a231 f_a231 = true := by decide +kernel
noncomputable def cl_a231_0 : List (Nat × e2_S) := [(25, e2_cutL (al_a231_0.set 2 (13, 9, 2147483708)) 1 (E_a231_0.take 1) h_a231_0)]
set_option maxRecDepth 1000000 in
theorem ck_a231_0 : e2_runM (e2_cal S_a231 I_a231 4000 1) (e2_fin rs_a231) e2x_169 (e2_bpL cl_a231_0) (e2_cutA cl_a231_0) 4000 (e2_seek e2x_169 25) al_a231_0 [] E_a231_0 h_a231_0 = true := by decide +kernel
set_option maxRecDepth 1000000 in
theorem ci_a231_0 : e2_idl 1 (al_a231_0.set 2 (9, 0, 0)) = true := by decide +kernel
set_option maxRecDepth 1000000 in
theorem cj_a231_0 : e2_idh 1 8 h_a231_0 = true := by decide +kernel
theorem cs_a231 (hen : en_ok) (l : Launch) (hh : e2_hand_a l) : e2_smOk l 65 s_a231 := by
  refine e2_conG (H := 63) (n := 1) (C := evd_169) (S := S_a231) (I := I_a231) (fuel := 4000) hen ei_169 (e2_fa (cs_a230 hen l hh) e2_fz) (e2_fa ein_99 e2_fz) (by decide) co_a231 fun M d _ hC hcall p e R s m args below meth c Q D cA A ads r0 ha hl0 => ?_
  have L_0 : e2_gdM M p l e R s m args below meth c Q D cA A ads r0 25 al_a231_0 [] E_a231_0 h_a231_0 := by
    refine e2_indL (u := 1) (j := 2) (lo := 2147483648) (hi := 2147483708) (b := 1) (dd := 0) hl0 (by decide) rfl rfl (Or.inr ⟨rfl, rfl⟩) rfl ci_a231_0 cj_a231_0 ?_
    intro r_0 k_0 hk_0 hp_0 hs_0 hn_0
    have hl_0 : r_0.length ≤ 2 := hs_0.len rfl
    have ha_0 := ha.ext hp_0
    exact e2_fromM hen ha_0 hcall (e2_cutA_ok (e2_fa (fun al st E h hc => hn_0 al st E h hc) e2_fz)) (hC []) (X := e2x_169) rfl 25 ck_a231_0
  have EN_0 := e2_entL (u := 1) (j := 2) (lo := 2147483648) (hi := 2147483708) hl0 rfl rfl rfl ci_a231_0 cj_a231_0 L_0
  exact e2_from hen ha hcall (e2_cutA_ok (e2_fa (fun al st E h hc => EN_0 al st E h hc) e2_fz)) (hC []) (X := e2x_169) rfl 0 ck_a231_e
/-! a232 X9_will -/
def as_a232 : List ev_V := [(2, 0, 0), (11, 0, 4294967295), (11, 0, 4294967295)]
def E_a232 : e2_E := [(2147483648, 2147583648, 0, 0)]
noncomputable def f_a232 : ev_H := (an1128 : e2_Q8)
noncomputable def q_a232_0 : ev_H := (an1128 : e2_Q8)
noncomputable def rs_a232 : e2_Rs := [((11, 0, 4294967295), q_a232_0)]
noncomputable def s_a232 : e2_Sm := (139, as_a232, E_a232, f_a232, rs_a232)
noncomputable def S_a232 : List e2_Sm := [s_a231]
noncomputable def I_a232 : List e2_In := [(161, 2, e2x_161)]
set_option maxRecDepth 1000000 in
theorem ck_a232 : e2_run (e2_cal S_a232 I_a232 4000 1) (e2_fin rs_a232) e2x_139 (fun _ => false) (fun _ _ _ _ _ => false) 4000 (e2_seek e2x_139 0) (e2_al 3 as_a232) [] E_a232 f_a232 = true := by decide +kernel
set_option maxRecDepth 1000000 in
theorem co_a232 : e2_okSB E_a232.length as_a232 f_a232 rs_a232 = true := by decide +kernel
theorem cs_a232 (hen : en_ok) (l : Launch) (hh : e2_hand_a l) : e2_smOk l 67 s_a232 := e2_con0 (H := 65) (n := 1) (C := evd_139) (S := S_a232) (I := I_a232) (fuel := 4000) [] hen ei_139 (e2_fa (cs_a231 hen l hh) e2_fz) (e2_fa ein_161 e2_fz) (by decide) co_a232 ck_a232
/-! a233 X9_field -/
def as_a233 : List ev_V := [(2, 0, 0), (11, 0, 4294967295)]
def E_a233 : e2_E := [(2147483648, 2147583648, 0, 0)]
noncomputable def f_a233 : ev_H := (an1128 : e2_Q8)
noncomputable def q_a233_0 : ev_H := (an1128 : e2_Q8)
noncomputable def rs_a233 : e2_Rs := [((11, 0, 4294967295), q_a233_0)]
noncomputable def s_a233 : e2_Sm := (140, as_a233, E_a233, f_a233, rs_a233)
noncomputable def S_a233 : List e2_Sm := [s_a231]
noncomputable def I_a233 : List e2_In := []
set_option maxRecDepth 1000000 in
theorem ck_a233 : e2_run (e2_cal S_a233 I_a233 4000 0) (e2_fin rs_a233) e2x_140 (fun _ => false) (fun _ _ _ _ _ => false) 4000 (e2_seek e2x_140 0) (e2_al 2 as_a233) [] E_a233 f_a233 = true := by decide +kernel
set_option maxRecDepth 1000000 in
theorem co_a233 : e2_okSB E_a233.length as_a233 f_a233 rs_a233 = true := by decide +kernel
theorem cs_a233 (hen : en_ok) (l : Launch) (hh : e2_hand_a l) : e2_smOk l 66 s_a233 := e2_con0 (H := 65) (n := 0) (C := evd_140) (S := S_a233) (I := I_a233) (fuel := 4000) [] hen ei_140 (e2_fa (cs_a231 hen l hh) e2_fz) e2_fz (by decide) co_a233 ck_a233
/-! a234 X9_harm -/
def as_a234 : List ev_V := [(2, 0, 0)]
def E_a234 : e2_E := [(2147483648, 2147583648, 0, 0)]
noncomputable def f_a234 : ev_H := (an1028 : e2_Q8)
def an1129 : e2_Q8 := (an1027, an1022)
noncomputable def q_a234_0 : ev_H := (an1129 : e2_Q8)
noncomputable def rs_a234 : e2_Rs := [((11, 2147483648, 2147483649), q_a234_0)]
noncomputable def s_a234 : e2_Sm := (141, as_a234, E_a234, f_a234, rs_a234)
noncomputable def S_a234 : List e2_Sm := [s_a210, s_a220]
noncomputable def I_a234 : List e2_In := []
set_option maxRecDepth 1000000 in
theorem ck_a234 : e2_run (e2_cal S_a234 I_a234 4000 0) (e2_fin rs_a234) e2x_141 (fun _ => false) (fun _ _ _ _ _ => false) 4000 (e2_seek e2x_141 0) (e2_al 1 as_a234) [] E_a234 f_a234 = true := by decide +kernel
set_option maxRecDepth 1000000 in
theorem co_a234 : e2_okSB E_a234.length as_a234 f_a234 rs_a234 = true := by decide +kernel
theorem cs_a234 (hen : en_ok) (l : Launch) (hh : e2_hand_a l) : e2_smOk l 62 s_a234 := e2_con0 (H := 61) (n := 0) (C := evd_141) (S := S_a234) (I := I_a234) (fuel := 4000) [] hen ei_141 (e2_fa ((cs_a210 hen l).mono (by decide)) (e2_fa (cs_a220 hen l hh) e2_fz)) e2_fz (by decide) co_a234 ck_a234
/-! a235 X9_orders -/
def as_a235 : List ev_V := [(2, 0, 0), (11, 0, 4294967295)]
def E_a235 : e2_E := [(2147483648, 2147583648, 0, 0)]
def an1130 : e2_Q5 := (an961, an636)
def an1131 : e2_Q5 := (an538, an1071)
def an1132 : e2_Q6 := (an1130, an1131)
def an1133 : e2_Q7 := (an1132, an722)
def an1134 : e2_Q5 := (an291, an646)
def an1135 : e2_Q6 := (an1134, an1009)
def an1136 : e2_Q4 := (an408, an310)
def an1137 : e2_Q5 := (an1136, an1075)
def an1138 : e2_Q5 := (an661, an724)
def an1139 : e2_Q6 := (an1137, an1138)
def an1140 : e2_Q7 := (an1135, an1139)
def an1141 : e2_Q8 := (an1133, an1140)
noncomputable def f_a235 : ev_H := (an1141 : e2_Q8)
noncomputable def q_a235_0 : ev_H := (an1141 : e2_Q8)
noncomputable def rs_a235 : e2_Rs := [((11, 0, 4294967295), q_a235_0)]
noncomputable def s_a235 : e2_Sm := (144, as_a235, E_a235, f_a235, rs_a235)
noncomputable def S_a235 : List e2_Sm := [s_a173, s_a188]
noncomputable def I_a235 : List e2_In := [(63, 1, e2x_63), (164, 1, e2x_164), (165, 2, e2x_165), (291, 1, e2x_291)]
set_option maxRecDepth 1000000 in
theorem ck_a235 : e2_run (e2_cal S_a235 I_a235 4000 2) (e2_fin rs_a235) e2x_144 (fun _ => false) (fun _ _ _ _ _ => false) 4000 (e2_seek e2x_144 0) (e2_al 2 as_a235) [] E_a235 f_a235 = true := by decide +kernel
set_option maxRecDepth 1000000 in
theorem co_a235 : e2_okSB E_a235.length as_a235 f_a235 rs_a235 = true := by decide +kernel
theorem cs_a235 (hen : en_ok) (l : Launch) (hh : e2_hand_a l) : e2_smOk l 65 s_a235 := e2_con0 (H := 62) (n := 2) (C := evd_144) (S := S_a235) (I := I_a235) (fuel := 4000) [] hen ei_144 (e2_fa ((cs_a173 hen l).mono (by decide)) (e2_fa (cs_a188 hen l hh) e2_fz)) (e2_fa ein_63 (e2_fa ein_164 (e2_fa ein_165 (e2_fa ein_291 e2_fz)))) (by decide) co_a235 ck_a235
/-! a236 X9_write -/
def as_a236 : List ev_V := [(2, 0, 0), (11, 0, 4294967295), (11, 0, 4294967295), (11, 0, 4294967295)]
def E_a236 : e2_E := [(2147483648, 2147583648, 0, 0)]
def an1142 : e2_Q2 := (an958, an778)
def an1143 : e2_Q3 := (an1142, an5)
def an1144 : e2_Q4 := (an1143, an13)
def an1145 : e2_Q5 := (an1144, an533)
def an1146 : e2_Q4 := (an352, an697)
def an1147 : e2_Q5 := (an538, an1146)
def an1148 : e2_Q6 := (an1145, an1147)
def an1149 : e2_Q7 := (an1148, an612)
def an1150 : e2_Q5 := (an547, an615)
def an1151 : e2_Q4 := (an1007, an171)
def an1152 : e2_Q5 := (an1151, an365)
def an1153 : e2_Q6 := (an1150, an1152)
def an1154 : e2_Q5 := (an661, an250)
def an1155 : e2_Q6 := (an570, an1154)
def an1156 : e2_Q7 := (an1153, an1155)
def an1157 : e2_Q8 := (an1149, an1156)
noncomputable def f_a236 : ev_H := (an1157 : e2_Q8)
noncomputable def q_a236_0 : ev_H := (an1157 : e2_Q8)
noncomputable def rs_a236 : e2_Rs := [((11, 2147483647, 2147483837), q_a236_0)]
noncomputable def s_a236 : e2_Sm := (145, as_a236, E_a236, f_a236, rs_a236)
noncomputable def S_a236 : List e2_Sm := [s_a173, s_a198]
noncomputable def I_a236 : List e2_In := [(63, 1, e2x_63), (162, 2, e2x_162)]
set_option maxRecDepth 1000000 in
theorem ck_a236 : e2_run (e2_cal S_a236 I_a236 4000 1) (e2_fin rs_a236) e2x_145 (fun _ => false) (fun _ _ _ _ _ => false) 4000 (e2_seek e2x_145 0) (e2_al 6 as_a236) [] E_a236 f_a236 = true := by decide +kernel
set_option maxRecDepth 1000000 in
theorem co_a236 : e2_okSB E_a236.length as_a236 f_a236 rs_a236 = true := by decide +kernel
theorem cs_a236 (hen : en_ok) (l : Launch) : e2_smOk l 19 s_a236 := e2_con0 (H := 17) (n := 1) (C := evd_145) (S := S_a236) (I := I_a236) (fuel := 4000) [] hen ei_145 (e2_fa ((cs_a173 hen l).mono (by decide)) (e2_fa (cs_a198 hen l) e2_fz)) (e2_fa ein_63 (e2_fa ein_162 e2_fz)) (by decide) co_a236 ck_a236
/-! a237 X9_watch -/
def as_a237 : List ev_V := [(2, 0, 0)]
def E_a237 : e2_E := [(2147483648, 2147583648, 0, 0)]
def an1158 : e2_Q5 := (an538, an993)
def an1159 : e2_Q6 := (an1130, an1158)
def an1160 : e2_Q7 := (an1159, an644)
def an1161 : e2_Q6 := (an1137, an662)
def an1162 : e2_Q7 := (an1135, an1161)
def an1163 : e2_Q8 := (an1160, an1162)
noncomputable def f_a237 : ev_H := (an1163 : e2_Q8)
def an1164 : e2_Q6 := (an647, an1009)
def an1165 : e2_Q4 := (an1012, an576)
def an1166 : e2_Q5 := (an1136, an1165)
def an1167 : e2_Q6 := (an1166, an662)
def an1168 : e2_Q7 := (an1164, an1167)
def an1169 : e2_Q8 := (an1160, an1168)
noncomputable def q_a237_0 : ev_H := (an1169 : e2_Q8)
noncomputable def rs_a237 : e2_Rs := [((11, 0, 4294967295), q_a237_0)]
noncomputable def s_a237 : e2_Sm := (146, as_a237, E_a237, f_a237, rs_a237)
noncomputable def S_a237 : List e2_Sm := [s_a173, s_a199]
noncomputable def I_a237 : List e2_In := []
set_option maxRecDepth 1000000 in
theorem ck_a237 : e2_run (e2_cal S_a237 I_a237 4000 0) (e2_fin rs_a237) e2x_146 (fun _ => false) (fun _ _ _ _ _ => false) 4000 (e2_seek e2x_146 0) (e2_al 1 as_a237) [] E_a237 f_a237 = true := by decide +kernel
set_option maxRecDepth 1000000 in
theorem co_a237 : e2_okSB E_a237.length as_a237 f_a237 rs_a237 = true := by decide +kernel
theorem cs_a237 (hen : en_ok) (l : Launch) (hh : e2_hand_a l) : e2_smOk l 64 s_a237 := e2_con0 (H := 63) (n := 0) (C := evd_146) (S := S_a237) (I := I_a237) (fuel := 4000) [] hen ei_146 (e2_fa ((cs_a173 hen l).mono (by decide)) (e2_fa (cs_a199 hen l hh) e2_fz)) e2_fz (by decide) co_a237 ck_a237
/-! a238 X9_cows -/
def as_a238 : List ev_V := [(2, 0, 0), (11, 0, 4294967295), (11, 0, 4294967295)]
def E_a238 : e2_E := [(2147483648, 2147583648, 0, 0)]
noncomputable def f_a238 : ev_H := (an1163 : e2_Q8)
noncomputable def q_a238_0 : ev_H := (an1163 : e2_Q8)
noncomputable def rs_a238 : e2_Rs := [((11, 0, 4294967295), q_a238_0)]
noncomputable def s_a238 : e2_Sm := (147, as_a238, E_a238, f_a238, rs_a238)
noncomputable def S_a238 : List e2_Sm := [s_a173, s_a200]
noncomputable def I_a238 : List e2_In := [(161, 2, e2x_161), (164, 1, e2x_164), (291, 1, e2x_291)]
set_option maxRecDepth 1000000 in
theorem ck_a238 : e2_run (e2_cal S_a238 I_a238 4000 1) (e2_fin rs_a238) e2x_147 (fun _ => false) (fun _ _ _ _ _ => false) 4000 (e2_seek e2x_147 0) (e2_al 3 as_a238) [] E_a238 f_a238 = true := by decide +kernel
set_option maxRecDepth 1000000 in
theorem co_a238 : e2_okSB E_a238.length as_a238 f_a238 rs_a238 = true := by decide +kernel
theorem cs_a238 (hen : en_ok) (l : Launch) (hh : e2_hand_a l) : e2_smOk l 65 s_a238 := e2_con0 (H := 63) (n := 1) (C := evd_147) (S := S_a238) (I := I_a238) (fuel := 4000) [] hen ei_147 (e2_fa ((cs_a173 hen l).mono (by decide)) (e2_fa (cs_a200 hen l hh) e2_fz)) (e2_fa ein_161 (e2_fa ein_164 (e2_fa ein_291 e2_fz))) (by decide) co_a238 ck_a238
/-! a239 X9_duel -/
def as_a239 : List ev_V := [(2, 0, 0), (11, 0, 4294967295), (11, 0, 4294967295), (11, 0, 4294967295), (11, 0, 4294967295)]
def E_a239 : e2_E := [(2147483648, 2147583648, 0, 0)]
noncomputable def f_a239 : ev_H := (an1163 : e2_Q8)
noncomputable def q_a239_0 : ev_H := (an1163 : e2_Q8)
noncomputable def rs_a239 : e2_Rs := [((11, 0, 4294967295), q_a239_0)]
noncomputable def s_a239 : e2_Sm := (148, as_a239, E_a239, f_a239, rs_a239)
noncomputable def S_a239 : List e2_Sm := [s_a173, s_a202]
noncomputable def I_a239 : List e2_In := [(161, 2, e2x_161), (164, 1, e2x_164), (165, 2, e2x_165)]
set_option maxRecDepth 1000000 in
theorem ck_a239 : e2_run (e2_cal S_a239 I_a239 4000 2) (e2_fin rs_a239) e2x_148 (fun _ => false) (fun _ _ _ _ _ => false) 4000 (e2_seek e2x_148 0) (e2_al 6 as_a239) [] E_a239 f_a239 = true := by decide +kernel
set_option maxRecDepth 1000000 in
theorem co_a239 : e2_okSB E_a239.length as_a239 f_a239 rs_a239 = true := by decide +kernel
theorem cs_a239 (hen : en_ok) (l : Launch) (hh : e2_hand_a l) : e2_smOk l 68 s_a239 := e2_con0 (H := 65) (n := 2) (C := evd_148) (S := S_a239) (I := I_a239) (fuel := 4000) [] hen ei_148 (e2_fa ((cs_a173 hen l).mono (by decide)) (e2_fa (cs_a202 hen l hh) e2_fz)) (e2_fa ein_161 (e2_fa ein_164 (e2_fa ein_165 e2_fz))) (by decide) co_a239 ck_a239
/-! a240 X9_heard -/
def as_a240 : List ev_V := [(2, 0, 0), (11, 0, 4294967295), (11, 0, 4294967295), (11, 0, 4294967295), (11, 2147483648, 2147483649)]
def E_a240 : e2_E := [(2147483648, 2147583648, 0, 0)]
def an1170 : e2_Q4 := (an960, an416)
def an1171 : e2_Q5 := (an1170, an29)
def an1172 : e2_Q6 := (an1171, an61)
def an1173 : e2_Q7 := (an1172, an424)
def an1174 : e2_Q8 := (an1173, an442)
noncomputable def f_a240 : ev_H := (an1174 : e2_Q8)
noncomputable def q_a240_0 : ev_H := (an1174 : e2_Q8)
noncomputable def rs_a240 : e2_Rs := [((11, 2147483647, 2147483677), q_a240_0)]
noncomputable def s_a240 : e2_Sm := (150, as_a240, E_a240, f_a240, rs_a240)
noncomputable def S_a240 : List e2_Sm := [s_a10]
noncomputable def I_a240 : List e2_In := []
set_option maxRecDepth 1000000 in
theorem ck_a240 : e2_run (e2_cal S_a240 I_a240 4000 0) (e2_fin rs_a240) e2x_150 (fun _ => false) (fun _ _ _ _ _ => false) 4000 (e2_seek e2x_150 0) (e2_al 5 as_a240) [] E_a240 f_a240 = true := by decide +kernel
set_option maxRecDepth 1000000 in
theorem co_a240 : e2_okSB E_a240.length as_a240 f_a240 rs_a240 = true := by decide +kernel
theorem cs_a240 (hen : en_ok) (l : Launch) : e2_smOk l 3 s_a240 := e2_con0 (H := 2) (n := 0) (C := evd_150) (S := S_a240) (I := I_a240) (fuel := 4000) [] hen ei_150 (e2_fa (cs_a10 hen l) e2_fz) e2_fz (by decide) co_a240 ck_a240
/-! a241 X9_fit -/
def as_a241 : List ev_V := [(2, 0, 0), (11, 0, 4294967295)]
def E_a241 : e2_E := [(2147483648, 2147583648, 0, 0)]
def an1175 : e2_Q7 := (an1172, an454)
def an1176 : e2_Q8 := (an1175, an442)
noncomputable def f_a241 : ev_H := (an1176 : e2_Q8)
noncomputable def q_a241_0 : ev_H := (an1176 : e2_Q8)
noncomputable def rs_a241 : e2_Rs := [((11, 2147483648, 2147549184), q_a241_0)]
noncomputable def s_a241 : e2_Sm := (153, as_a241, E_a241, f_a241, rs_a241)
noncomputable def S_a241 : List e2_Sm := [s_a29]
noncomputable def I_a241 : List e2_In := []
set_option maxRecDepth 1000000 in
theorem ck_a241 : e2_run (e2_cal S_a241 I_a241 4000 0) (e2_fin rs_a241) e2x_153 (fun _ => false) (fun _ _ _ _ _ => false) 4000 (e2_seek e2x_153 0) (e2_al 2 as_a241) [] E_a241 f_a241 = true := by decide +kernel
set_option maxRecDepth 1000000 in
theorem co_a241 : e2_okSB E_a241.length as_a241 f_a241 rs_a241 = true := by decide +kernel
theorem cs_a241 (hen : en_ok) (l : Launch) : e2_smOk l 20 s_a241 := e2_con0 (H := 19) (n := 0) (C := evd_153) (S := S_a241) (I := I_a241) (fuel := 4000) [] hen ei_153 (e2_fa (cs_a29 hen l) e2_fz) e2_fz (by decide) co_a241 ck_a241
/-! a242 X9_sure -/
def as_a242 : List ev_V := [(2, 0, 0), (11, 0, 4294967295), (11, 0, 4294967295), (11, 0, 4294967295)]
def E_a242 : e2_E := [(2147483648, 2147583648, 0, 0)]
noncomputable def f_a242 : ev_H := (an1176 : e2_Q8)
noncomputable def q_a242_0 : ev_H := (an1176 : e2_Q8)
noncomputable def rs_a242 : e2_Rs := [((11, 2147483646, 2147483649), q_a242_0)]
noncomputable def s_a242 : e2_Sm := (154, as_a242, E_a242, f_a242, rs_a242)
noncomputable def S_a242 : List e2_Sm := [s_a30]
noncomputable def I_a242 : List e2_In := []
set_option maxRecDepth 1000000 in
theorem ck_a242 : e2_run (e2_cal S_a242 I_a242 4000 0) (e2_fin rs_a242) e2x_154 (fun _ => false) (fun _ _ _ _ _ => false) 4000 (e2_seek e2x_154 0) (e2_al 4 as_a242) [] E_a242 f_a242 = true := by decide +kernel
set_option maxRecDepth 1000000 in
theorem co_a242 : e2_okSB E_a242.length as_a242 f_a242 rs_a242 = true := by decide +kernel
theorem cs_a242 (hen : en_ok) (l : Launch) : e2_smOk l 22 s_a242 := e2_con0 (H := 21) (n := 0) (C := evd_154) (S := S_a242) (I := I_a242) (fuel := 4000) [] hen ei_154 (e2_fa (cs_a30 hen l) e2_fz) e2_fz (by decide) co_a242 ck_a242
/-! a243 X9_ask -/
def as_a243 : List ev_V := [(2, 0, 0), (11, 0, 4294967295), (11, 0, 4294967295)]
def E_a243 : e2_E := [(2147483648, 2147583648, 0, 0)]
noncomputable def f_a243 : ev_H := (an1176 : e2_Q8)
noncomputable def q_a243_0 : ev_H := (an1176 : e2_Q8)
noncomputable def rs_a243 : e2_Rs := [((11, 2147483647, 2147549184), q_a243_0)]
noncomputable def s_a243 : e2_Sm := (155, as_a243, E_a243, f_a243, rs_a243)
noncomputable def S_a243 : List e2_Sm := [s_a31]
noncomputable def I_a243 : List e2_In := []
set_option maxRecDepth 1000000 in
theorem ck_a243 : e2_run (e2_cal S_a243 I_a243 4000 0) (e2_fin rs_a243) e2x_155 (fun _ => false) (fun _ _ _ _ _ => false) 4000 (e2_seek e2x_155 0) (e2_al 3 as_a243) [] E_a243 f_a243 = true := by decide +kernel
set_option maxRecDepth 1000000 in
theorem co_a243 : e2_okSB E_a243.length as_a243 f_a243 rs_a243 = true := by decide +kernel
theorem cs_a243 (hen : en_ok) (l : Launch) : e2_smOk l 22 s_a243 := e2_con0 (H := 21) (n := 0) (C := evd_155) (S := S_a243) (I := I_a243) (fuel := 4000) [] hen ei_155 (e2_fa (cs_a31 hen l) e2_fz) e2_fz (by decide) co_a243 ck_a243
/-! a244 X9_about -/
def as_a244 : List ev_V := [(2, 0, 0), (11, 0, 4294967295)]
def E_a244 : e2_E := [(2147483648, 2147583648, 0, 0)]
def an1177 : e2_Q3 := (an48, an1057)
def an1178 : e2_Q4 := (an1177, an59)
def an1179 : e2_Q5 := (an921, an1178)
def an1180 : e2_Q6 := (an962, an1179)
def an1181 : e2_Q7 := (an1180, an125)
def an1182 : e2_Q3 := (an710, an966)
def an1183 : e2_Q4 := (an1182, an140)
def an1184 : e2_Q5 := (an1183, an156)
def an1185 : e2_Q6 := (an1184, an434)
def an1186 : e2_Q4 := (an211, an568)
def an1187 : e2_Q5 := (an345, an1186)
def an1188 : e2_Q6 := (an1187, an251)
def an1189 : e2_Q7 := (an1185, an1188)
def an1190 : e2_Q8 := (an1181, an1189)
noncomputable def f_a244 : ev_H := (an1190 : e2_Q8)
noncomputable def q_a244_0 : ev_H := (an1190 : e2_Q8)
noncomputable def rs_a244 : e2_Rs := [((11, 0, 4294967295), q_a244_0)]
noncomputable def s_a244 : e2_Sm := (158, as_a244, E_a244, f_a244, rs_a244)
noncomputable def S_a244 : List e2_Sm := []
noncomputable def I_a244 : List e2_In := []
set_option maxRecDepth 1000000 in
theorem ck_a244 : e2_run (e2_cal S_a244 I_a244 4000 0) (e2_fin rs_a244) e2x_158 (fun _ => false) (fun _ _ _ _ _ => false) 4000 (e2_seek e2x_158 0) (e2_al 2 as_a244) [] E_a244 f_a244 = true := by decide +kernel
set_option maxRecDepth 1000000 in
theorem co_a244 : e2_okSB E_a244.length as_a244 f_a244 rs_a244 = true := by decide +kernel
theorem cs_a244 (hen : en_ok) (l : Launch) : e2_smOk l 1 s_a244 := e2_con0 (H := 0) (n := 0) (C := evd_158) (S := S_a244) (I := I_a244) (fuel := 4000) [] hen ei_158 e2_fz e2_fz (by decide) co_a244 ck_a244
