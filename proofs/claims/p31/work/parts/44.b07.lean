/-! CONTRACTS b, printed by a program -/
/-! b242 X10_year -/
def as_b242 : List ev_V := [(2, 83, 0)]
def E_b242 : e2_E := [(2147483648, 2147583648, 0, 0), (2147483648, 2147483656, 1, 0)]
def bn1996 : e2_Q4 := (bn308, bn1990)
def bn1997 : e2_Q5 := (bn1996, bn271)
def bn1998 : e2_Q6 := (bn1923, bn1997)
def bn1999 : e2_Q7 := (bn1921, bn1998)
def bn2000 : e2_Q8 := (bn1999, bn1948)
noncomputable def f_b242 : ev_H := (bn2000 : e2_Q8)
noncomputable def q_b242_0 : ev_H := (bn2000 : e2_Q8)
noncomputable def rs_b242 : e2_Rs := [((11, 2147483646, 2147483668), q_b242_0)]
noncomputable def s_b242 : e2_Sm := (246, as_b242, E_b242, f_b242, rs_b242)
noncomputable def S_b242 : List e2_Sm := [s_b237, s_b241]
noncomputable def I_b242 : List e2_In := []
set_option maxRecDepth 1000000 in
theorem ck_b242 : e2_run (e2_cal S_b242 I_b242 4000 0) (e2_fin rs_b242) e2x_246 (fun _ => false) (fun _ _ _ _ _ => false) 4000 (e2_seek e2x_246 0) (e2_al 1 as_b242) [] E_b242 f_b242 = true := by decide +kernel
set_option maxRecDepth 1000000 in
theorem co_b242 : e2_okSB E_b242.length as_b242 f_b242 rs_b242 = true := by decide +kernel
theorem cs_b242 (hen : en_ok) (l : Launch) (hh : e2_hand_b l) : e2_smOk l 66 s_b242 := e2_con0 (H := 65) (n := 0) (C := evd_246) (S := S_b242) (I := I_b242) (fuel := 4000) [] hen ei_246 (e2_fa ((cs_b237 hen l).mono (by decide)) (e2_fa (cs_b241 hen l hh) e2_fz)) e2_fz (by decide) co_b242 ex2_246 ck_b242
/-! b243 X10_undo -/
def as_b243 : List ev_V := [(2, 83, 0)]
def E_b243 : e2_E := [(2147483648, 2147583648, 0, 0), (2147483648, 2147483656, 1, 0)]
noncomputable def f_b243 : ev_H := (bn1957 : e2_Q8)
noncomputable def q_b243_0 : ev_H := (bn1989 : e2_Q8)
noncomputable def rs_b243 : e2_Rs := [((11, 2147483648, 2147483649), q_b243_0)]
noncomputable def s_b243 : e2_Sm := (247, as_b243, E_b243, f_b243, rs_b243)
noncomputable def S_b243 : List e2_Sm := [s_b238]
noncomputable def I_b243 : List e2_In := []
set_option maxRecDepth 1000000 in
theorem ck_b243 : e2_run (e2_cal S_b243 I_b243 4000 0) (e2_fin rs_b243) e2x_247 (fun _ => false) (fun _ _ _ _ _ => false) 4000 (e2_seek e2x_247 0) (e2_al 1 as_b243) [] E_b243 f_b243 = true := by decide +kernel
set_option maxRecDepth 1000000 in
theorem co_b243 : e2_okSB E_b243.length as_b243 f_b243 rs_b243 = true := by decide +kernel
theorem cs_b243 (hen : en_ok) (l : Launch) : e2_smOk l 2 s_b243 := e2_con0 (H := 1) (n := 0) (C := evd_247) (S := S_b243) (I := I_b243) (fuel := 4000) [] hen ei_247 (e2_fa (cs_b238 hen l) e2_fz) e2_fz (by decide) co_b243 ex2_247 ck_b243
/-! b244 X10_redo -/
def as_b244 : List ev_V := [(2, 83, 0)]
def E_b244 : e2_E := [(2147483648, 2147583648, 0, 0), (2147483648, 2147483656, 1, 0)]
noncomputable def f_b244 : ev_H := (bn1957 : e2_Q8)
def bc232 : ev_C := (10, [(0, 0, 0), (2, 88, 0), (2, 115, 0), (2, 114, 0), (2, 86, 0), (2, 112, 0), (11, 2147483648, 2147483689), (2, 118, 0), (2, 120, 0), (2, 131, 0), (2, 91, 0), (11, 2147483648, 2147483668), (2, 123, 0), (11, 2147483648, 2147483649), (11, 2147483648, 2147485248), (2, 87, 0), (2, 84, 0), (2, 122, 0), (2, 100, 0), (2, 132, 0), (11, 2147483648, 2147483668), (11, 2147483648, 2147485248), (1, 0, 4294967296), (11, 2147483648, 2147483653), (11, 2147483648, 2147485248), (2, 93, 0), (2, 104, 0), (11, 2147483648, 2147483678), (2, 89, 0), (2, 92, 0), (2, 119, 0), (2, 90, 0), (2, 94, 0), (2, 103, 0), (11, 2147483647, 2147483688), (11, 2147483648, 2147549184), (11, 0, 4294967295), (11, 2147483648, 2147485249), (11, 2147483648, 2147483653), (11, 2147483648, 2147483668), (2, 85, 0), (11, 0, 4294967295), (5, 0, 0), (2, 95, 0), (2, 96, 0), (2, 97, 0), (2, 98, 0), (2, 99, 0), (2, 101, 0), (2, 102, 0), (2, 105, 0), (2, 106, 0), (2, 107, 0), (2, 108, 0), (2, 109, 0), (2, 110, 0), (2, 111, 0), (11, 2147483648, 2147484768), (11, 2147482048, 2147483655), (11, 2147483648, 2147483738), (11, 2147483648, 2147483678), (11, 0, 4294967295), (11, 0, 4294967295), (11, 0, 4294967295), (11, 0, 4294967295), (11, 0, 4294967295), (2, 113, 0), (2, 116, 0), (2, 117, 0), (2, 121, 0), (11, 0, 4294967295), (11, 0, 4294967295), (2, 124, 0), (2, 125, 0), (11, 0, 4294967295), (2, 126, 0), (2, 127, 0), (2, 128, 0), (2, 129, 0), (2, 130, 0)])
def bn2001 : e2_Q1 := (bc232, bc3)
def bn2002 : e2_Q2 := (bn196, bn2001)
def bn2003 : e2_Q3 := (bn2002, bn201)
def bn2004 : e2_Q4 := (bn195, bn2003)
def bn2005 : e2_Q5 := (bn2004, bn289)
def bn2006 : e2_Q6 := (bn2005, bn250)
def bn2007 : e2_Q7 := (bn339, bn2006)
def bn2008 : e2_Q8 := (bn1956, bn2007)
noncomputable def q_b244_0 : ev_H := (bn2008 : e2_Q8)
noncomputable def rs_b244 : e2_Rs := [((11, 2147483648, 2147483649), q_b244_0)]
noncomputable def s_b244 : e2_Sm := (248, as_b244, E_b244, f_b244, rs_b244)
noncomputable def S_b244 : List e2_Sm := [s_b238]
noncomputable def I_b244 : List e2_In := []
set_option maxRecDepth 1000000 in
theorem ck_b244 : e2_run (e2_cal S_b244 I_b244 4000 0) (e2_fin rs_b244) e2x_248 (fun _ => false) (fun _ _ _ _ _ => false) 4000 (e2_seek e2x_248 0) (e2_al 1 as_b244) [] E_b244 f_b244 = true := by decide +kernel
set_option maxRecDepth 1000000 in
theorem co_b244 : e2_okSB E_b244.length as_b244 f_b244 rs_b244 = true := by decide +kernel
theorem cs_b244 (hen : en_ok) (l : Launch) : e2_smOk l 2 s_b244 := e2_con0 (H := 1) (n := 0) (C := evd_248) (S := S_b244) (I := I_b244) (fuel := 4000) [] hen ei_248 (e2_fa (cs_b238 hen l) e2_fz) e2_fz (by decide) co_b244 ex2_248 ck_b244
/-! b245 X10_readings -/
def as_b245 : List ev_V := [(2, 83, 0)]
def E_b245 : e2_E := [(2147483648, 2147583648, 0, 0), (2147483648, 2147483656, 1, 0)]
noncomputable def f_b245 : ev_H := (bn1932 : e2_Q8)
noncomputable def q_b245_0 : ev_H := (bn1932 : e2_Q8)
noncomputable def rs_b245 : e2_Rs := [((11, 0, 4294967295), q_b245_0)]
noncomputable def s_b245 : e2_Sm := (249, as_b245, E_b245, f_b245, rs_b245)
noncomputable def S_b245 : List e2_Sm := [s_b230]
noncomputable def I_b245 : List e2_In := [(227, 2, e2x_227), (232, 1, e2x_232)]
set_option maxRecDepth 1000000 in
theorem ck_b245 : e2_run (e2_cal S_b245 I_b245 4000 2) (e2_fin rs_b245) e2x_249 (fun _ => false) (fun _ _ _ _ _ => false) 4000 (e2_seek e2x_249 0) (e2_al 1 as_b245) [] E_b245 f_b245 = true := by decide +kernel
set_option maxRecDepth 1000000 in
theorem co_b245 : e2_okSB E_b245.length as_b245 f_b245 rs_b245 = true := by decide +kernel
theorem cs_b245 (hen : en_ok) (l : Launch) (hh : e2_hand_b l) : e2_smOk l 66 s_b245 := e2_con0 (H := 63) (n := 2) (C := evd_249) (S := S_b245) (I := I_b245) (fuel := 4000) [] hen ei_249 (e2_fa (cs_b230 hen l hh) e2_fz) (e2_fa ein_227 (e2_fa ein_232 e2_fz)) (by decide) co_b245 ex2_249 ck_b245
/-! b246 X10_taken -/
def as_b246 : List ev_V := [(2, 83, 0)]
def E_b246 : e2_E := [(2147483648, 2147583648, 0, 0), (2147483648, 2147483656, 1, 0)]
def bc233 : ev_C := (54, [(0, 20, 0), (11, 0, 4294967295)])
def bn2009 : e2_Q1 := (bc233, bc3)
def bn2010 : e2_Q2 := (bn230, bn2009)
def bn2011 : e2_Q3 := (bn229, bn2010)
def bn2012 : e2_Q4 := (bn226, bn2011)
def bn2013 : e2_Q5 := (bn2012, bn329)
def bn2014 : e2_Q6 := (bn1929, bn2013)
def bn2015 : e2_Q7 := (bn1928, bn2014)
def bn2016 : e2_Q8 := (bn1925, bn2015)
noncomputable def f_b246 : ev_H := (bn2016 : e2_Q8)
noncomputable def q_b246_0 : ev_H := (bn2016 : e2_Q8)
noncomputable def rs_b246 : e2_Rs := [((11, 2147483647, 2147483668), q_b246_0)]
noncomputable def s_b246 : e2_Sm := (251, as_b246, E_b246, f_b246, rs_b246)
noncomputable def S_b246 : List e2_Sm := [s_b230]
noncomputable def I_b246 : List e2_In := []
set_option maxRecDepth 1000000 in
theorem co_b246 : e2_okSB E_b246.length as_b246 f_b246 rs_b246 = true := by decide +kernel
def al_b246_0 : List ev_V := [(2, 83, 0), (11, 2147483647, 2147483668), (1, 2, 4294967296)]
def E_b246_0 : e2_E := [(2147483648, 2147583648, 0, 0), (2147483648, 2147483656, 1, 0), (2147483648, 2147483668, 2, 0)]
noncomputable def h_b246_0 : ev_H := (bn2016 : e2_Q8)
noncomputable def cl_b246_e : List (Nat × e2_S) := [(12, e2_cutL (al_b246_0.set 2 (11, 2147483648, 2147483668)) 2 (E_b246_0.take 2) h_b246_0)]
set_option maxRecDepth 1000000 in
theorem ck_b246_e : e2_run (e2_cal S_b246 I_b246 4000 0) (e2_fin rs_b246) e2x_251 (e2_bpL cl_b246_e) (e2_cutA cl_b246_e) 4000 (e2_seek e2x_251 0) (e2_al 3 as_b246) [] E_b246 f_b246 = true := by decide +kernel
noncomputable def cl_b246_0 : List (Nat × e2_S) := [(12, e2_cutL (al_b246_0.set 2 (13, 10, 2147483668)) 2 (E_b246_0.take 2) h_b246_0)]
set_option maxRecDepth 1000000 in
theorem ck_b246_0 : e2_runM (e2_cal S_b246 I_b246 4000 0) (e2_fin rs_b246) e2x_251 (e2_bpL cl_b246_0) (e2_cutA cl_b246_0) 4000 (e2_seek e2x_251 12) al_b246_0 [] E_b246_0 h_b246_0 = true := by decide +kernel
set_option maxRecDepth 1000000 in
theorem ci_b246_0 : e2_idl 2 (al_b246_0.set 2 (9, 0, 0)) = true := by decide +kernel
set_option maxRecDepth 1000000 in
theorem cj_b246_0 : e2_idh 2 8 h_b246_0 = true := by decide +kernel
theorem cs_b246 (hen : en_ok) (l : Launch) (hh : e2_hand_b l) : e2_smOk l 64 s_b246 := by
  refine e2_conG (H := 63) (n := 0) (C := evd_251) (S := S_b246) (I := I_b246) (fuel := 4000) hen ei_251 (e2_fa (cs_b230 hen l hh) e2_fz) e2_fz (by decide) co_b246 fun M d _ hC hcall p e R s m args below meth c Q D cA A ads r0 ha hl0 => ?_
  have L_0 : e2_gdM M p l e R s m args below meth c Q D cA A ads r0 12 al_b246_0 [] E_b246_0 h_b246_0 := by
    refine e2_indL (u := 2) (j := 2) (lo := 2147483648) (hi := 2147483668) (b := 2) (dd := 0) hl0 (by decide) rfl rfl (Or.inr ⟨rfl, rfl⟩) rfl ci_b246_0 cj_b246_0 ?_
    intro r_0 k_0 hk_0 hp_0 hs_0 hn_0
    have hl_0 : r_0.length ≤ 3 := hs_0.len rfl
    have ha_0 := ha.ext hp_0
    exact e2_fromM hen ha_0 hcall (e2_cutA_ok (e2_fa (fun al st E h hc => hn_0 al st E h hc) e2_fz)) (hC []) (X := e2x_251) ex2_251 12 ck_b246_0
  have EN_0 := e2_entL (u := 2) (j := 2) (lo := 2147483648) (hi := 2147483668) hl0 rfl rfl rfl ci_b246_0 cj_b246_0 L_0
  exact e2_from hen ha hcall (e2_cutA_ok (e2_fa (fun al st E h hc => EN_0 al st E h hc) e2_fz)) (hC []) (X := e2x_251) ex2_251 0 ck_b246_e
/-! b247 X10_weight -/
def as_b247 : List ev_V := [(2, 83, 0)]
def E_b247 : e2_E := [(2147483648, 2147583648, 0, 0), (2147483648, 2147483656, 1, 0)]
noncomputable def f_b247 : ev_H := (bn1932 : e2_Q8)
noncomputable def q_b247_0 : ev_H := (bn1932 : e2_Q8)
noncomputable def rs_b247 : e2_Rs := [((11, 0, 4294967295), q_b247_0)]
noncomputable def s_b247 : e2_Sm := (252, as_b247, E_b247, f_b247, rs_b247)
noncomputable def S_b247 : List e2_Sm := [s_b230]
noncomputable def I_b247 : List e2_In := [(227, 2, e2x_227)]
set_option maxRecDepth 1000000 in
theorem ck_b247 : e2_run (e2_cal S_b247 I_b247 4000 1) (e2_fin rs_b247) e2x_252 (fun _ => false) (fun _ _ _ _ _ => false) 4000 (e2_seek e2x_252 0) (e2_al 1 as_b247) [] E_b247 f_b247 = true := by decide +kernel
set_option maxRecDepth 1000000 in
theorem co_b247 : e2_okSB E_b247.length as_b247 f_b247 rs_b247 = true := by decide +kernel
theorem cs_b247 (hen : en_ok) (l : Launch) (hh : e2_hand_b l) : e2_smOk l 65 s_b247 := e2_con0 (H := 63) (n := 1) (C := evd_252) (S := S_b247) (I := I_b247) (fuel := 4000) [] hen ei_252 (e2_fa (cs_b230 hen l hh) e2_fz) (e2_fa ein_227 e2_fz) (by decide) co_b247 ex2_252 ck_b247
/-! b248 X10_does -/
def as_b248 : List ev_V := [(2, 83, 0), (11, 0, 4294967295)]
def E_b248 : e2_E := [(2147483648, 2147583648, 0, 0), (2147483648, 2147483656, 1, 0)]
def bn2017 : e2_Q5 := (bn443, bn329)
def bn2018 : e2_Q6 := (bn1946, bn2017)
def bn2019 : e2_Q7 := (bn1928, bn2018)
def bn2020 : e2_Q8 := (bn1925, bn2019)
noncomputable def f_b248 : ev_H := (bn2020 : e2_Q8)
noncomputable def q_b248_0 : ev_H := (bn2020 : e2_Q8)
noncomputable def rs_b248 : e2_Rs := [((11, 0, 4294967295), q_b248_0)]
noncomputable def s_b248 : e2_Sm := (253, as_b248, E_b248, f_b248, rs_b248)
noncomputable def S_b248 : List e2_Sm := [s_b230, s_b231]
noncomputable def I_b248 : List e2_In := [(212, 3, e2x_212), (220, 2, e2x_220)]
set_option maxRecDepth 1000000 in
theorem ck_b248 : e2_run (e2_cal S_b248 I_b248 4000 2) (e2_fin rs_b248) e2x_253 (fun _ => false) (fun _ _ _ _ _ => false) 4000 (e2_seek e2x_253 0) (e2_al 2 as_b248) [] E_b248 f_b248 = true := by decide +kernel
set_option maxRecDepth 1000000 in
theorem co_b248 : e2_okSB E_b248.length as_b248 f_b248 rs_b248 = true := by decide +kernel
theorem cs_b248 (hen : en_ok) (l : Launch) (hh : e2_hand_b l) : e2_smOk l 66 s_b248 := e2_con0 (H := 63) (n := 2) (C := evd_253) (S := S_b248) (I := I_b248) (fuel := 4000) [] hen ei_253 (e2_fa (cs_b230 hen l hh) (e2_fa ((cs_b231 hen l).mono (by decide)) e2_fz)) (e2_fa ein_212 (e2_fa ein_220 e2_fz)) (by decide) co_b248 ex2_253 ck_b248
/-! b249 X10_goYears -/
def as_b249 : List ev_V := [(2, 83, 0), (11, 2147483648, 2147483708)]
def E_b249 : e2_E := [(2147483648, 2147583648, 0, 0), (2147483648, 2147483656, 1, 0)]
def bn2021 : e2_Q2 := (bn25, bn294)
def bn2022 : e2_Q3 := (bn352, bn2021)
def bn2023 : e2_Q4 := (bn350, bn2022)
def bn2024 : e2_Q5 := (bn1918, bn2023)
def bn2025 : e2_Q6 := (bn2024, bn1920)
def bn2026 : e2_Q7 := (bn2025, bn1924)
def bn2027 : e2_Q8 := (bn2026, bn1948)
noncomputable def f_b249 : ev_H := (bn2027 : e2_Q8)
noncomputable def q_b249_0 : ev_H := (bn2027 : e2_Q8)
noncomputable def rs_b249 : e2_Rs := [((9, 0, 0), q_b249_0)]
noncomputable def s_b249 : e2_Sm := (254, as_b249, E_b249, f_b249, rs_b249)
noncomputable def S_b249 : List e2_Sm := [s_b241]
noncomputable def I_b249 : List e2_In := []
set_option maxRecDepth 1000000 in
theorem co_b249 : e2_okSB E_b249.length as_b249 f_b249 rs_b249 = true := by decide +kernel
def al_b249_0 : List ev_V := [(2, 83, 0), (11, 2147483648, 2147483708), (1, 2, 4294967296)]
def E_b249_0 : e2_E := [(2147483648, 2147583648, 0, 0), (2147483648, 2147483656, 1, 0), (2147483648, 2147483674, 2, 0)]
noncomputable def h_b249_0 : ev_H := (bn2027 : e2_Q8)
def al_b249_1 : List ev_V := [(2, 83, 0), (11, 2147483648, 2147483708), (1, 2, 4294967296)]
def E_b249_1 : e2_E := [(2147483648, 2147583648, 0, 0), (2147483648, 2147483656, 1, 0), (2147483648, 2147483708, 2, 0)]
noncomputable def h_b249_1 : ev_H := (bn2027 : e2_Q8)
noncomputable def cl_b249_e : List (Nat × e2_S) := [(2, e2_cutL (al_b249_0.set 2 (11, 2147483648, 2147483674)) 2 (E_b249_0.take 2) h_b249_0)]
set_option maxRecDepth 1000000 in
theorem ck_b249_e : e2_run (e2_cal S_b249 I_b249 4000 0) (e2_fin rs_b249) e2x_254 (e2_bpL cl_b249_e) (e2_cutA cl_b249_e) 4000 (e2_seek e2x_254 0) (e2_al 3 as_b249) [] E_b249 f_b249 = true := by decide +kernel
noncomputable def cl_b249_0 : List (Nat × e2_S) := [(2, e2_cutL (al_b249_0.set 2 (13, 10, 2147483674)) 2 (E_b249_0.take 2) h_b249_0),
  (28, e2_cutL (al_b249_1.set 2 (11, 2147483648, 2147483708)) 2 (E_b249_1.take 2) h_b249_1)]
set_option maxRecDepth 1000000 in
theorem ck_b249_0 : e2_runM (e2_cal S_b249 I_b249 4000 0) (e2_fin rs_b249) e2x_254 (e2_bpL cl_b249_0) (e2_cutA cl_b249_0) 4000 (e2_seek e2x_254 2) al_b249_0 [] E_b249_0 h_b249_0 = true := by decide +kernel
set_option maxRecDepth 1000000 in
theorem ci_b249_0 : e2_idl 2 (al_b249_0.set 2 (9, 0, 0)) = true := by decide +kernel
set_option maxRecDepth 1000000 in
theorem cj_b249_0 : e2_idh 2 8 h_b249_0 = true := by decide +kernel
noncomputable def cl_b249_1 : List (Nat × e2_S) := [(28, e2_cutL (al_b249_1.set 2 (13, 10, 2147483708)) 2 (E_b249_1.take 2) h_b249_1)]
set_option maxRecDepth 1000000 in
theorem ck_b249_1 : e2_runM (e2_cal S_b249 I_b249 4000 0) (e2_fin rs_b249) e2x_254 (e2_bpL cl_b249_1) (e2_cutA cl_b249_1) 4000 (e2_seek e2x_254 28) al_b249_1 [] E_b249_1 h_b249_1 = true := by decide +kernel
set_option maxRecDepth 1000000 in
theorem ci_b249_1 : e2_idl 2 (al_b249_1.set 2 (9, 0, 0)) = true := by decide +kernel
set_option maxRecDepth 1000000 in
theorem cj_b249_1 : e2_idh 2 8 h_b249_1 = true := by decide +kernel
theorem cs_b249 (hen : en_ok) (l : Launch) (hh : e2_hand_b l) : e2_smOk l 66 s_b249 := by
  refine e2_conG (H := 65) (n := 0) (C := evd_254) (S := S_b249) (I := I_b249) (fuel := 4000) hen ei_254 (e2_fa (cs_b241 hen l hh) e2_fz) e2_fz (by decide) co_b249 fun M d _ hC hcall p e R s m args below meth c Q D cA A ads r0 ha hl0 => ?_
  have L_1 : e2_gdM M p l e R s m args below meth c Q D cA A ads r0 28 al_b249_1 [] E_b249_1 h_b249_1 := by
    refine e2_indL (u := 2) (j := 2) (lo := 2147483648) (hi := 2147483708) (b := 2) (dd := 0) hl0 (by decide) rfl rfl (Or.inr ⟨rfl, rfl⟩) rfl ci_b249_1 cj_b249_1 ?_
    intro r_1 k_1 hk_1 hp_1 hs_1 hn_1
    have hl_1 : r_1.length ≤ 3 := hs_1.len rfl
    have ha_1 := ha.ext hp_1
    exact e2_fromM hen ha_1 hcall (e2_cutA_ok (e2_fa (fun al st E h hc => hn_1 al st E h hc) e2_fz)) (hC [12]) (X := e2x_254) ex2_254 28 ck_b249_1
  have EN_1 := e2_entL (u := 2) (j := 2) (lo := 2147483648) (hi := 2147483708) hl0 rfl rfl rfl ci_b249_1 cj_b249_1 L_1
  have L_0 : e2_gdM M p l e R s m args below meth c Q D cA A ads r0 2 al_b249_0 [] E_b249_0 h_b249_0 := by
    refine e2_indL (u := 2) (j := 2) (lo := 2147483648) (hi := 2147483674) (b := 2) (dd := 0) hl0 (by decide) rfl rfl (Or.inr ⟨rfl, rfl⟩) rfl ci_b249_0 cj_b249_0 ?_
    intro r_0 k_0 hk_0 hp_0 hs_0 hn_0
    have hl_0 : r_0.length ≤ 3 := hs_0.len rfl
    have ha_0 := ha.ext hp_0
    exact e2_fromM hen ha_0 hcall (e2_cutA_ok (e2_fa (fun al st E h hc => hn_0 al st E h hc) (e2_fa (fun al st E h hc => (EN_1 al st E h hc).ext hp_0) e2_fz))) (hC [12]) (X := e2x_254) ex2_254 2 ck_b249_0
  have EN_0 := e2_entL (u := 2) (j := 2) (lo := 2147483648) (hi := 2147483674) hl0 rfl rfl rfl ci_b249_0 cj_b249_0 L_0
  exact e2_from hen ha hcall (e2_cutA_ok (e2_fa (fun al st E h hc => EN_0 al st E h hc) e2_fz)) (hC [12]) (X := e2x_254) ex2_254 0 ck_b249_e
/-! b250 X10_bringBack -/
def as_b250 : List ev_V := [(2, 83, 0)]
def E_b250 : e2_E := [(2147483648, 2147583648, 0, 0), (2147483648, 2147483656, 1, 0)]
def bn2028 : e2_Q3 := (bn24, bn2021)
def bn2029 : e2_Q4 := (bn21, bn2028)
def bn2030 : e2_Q5 := (bn297, bn2029)
def bn2031 : e2_Q6 := (bn2030, bn334)
def bn2032 : e2_Q7 := (bn2031, bn273)
def bn2033 : e2_Q8 := (bn2032, bn1321)
noncomputable def f_b250 : ev_H := (bn2033 : e2_Q8)
noncomputable def q_b250_0 : ev_H := (bn2033 : e2_Q8)
noncomputable def rs_b250 : e2_Rs := [((9, 0, 0), q_b250_0)]
noncomputable def s_b250 : e2_Sm := (255, as_b250, E_b250, f_b250, rs_b250)
noncomputable def S_b250 : List e2_Sm := []
noncomputable def I_b250 : List e2_In := []
set_option maxRecDepth 1000000 in
theorem co_b250 : e2_okSB E_b250.length as_b250 f_b250 rs_b250 = true := by decide +kernel
def al_b250_0 : List ev_V := [(2, 83, 0), (1, 2, 4294967296)]
def E_b250_0 : e2_E := [(2147483648, 2147583648, 0, 0), (2147483648, 2147483656, 1, 0), (2147483648, 2147483674, 2, 0)]
noncomputable def h_b250_0 : ev_H := (bn2033 : e2_Q8)
noncomputable def cl_b250_e : List (Nat × e2_S) := [(2, e2_cutL (al_b250_0.set 1 (11, 2147483648, 2147483674)) 2 (E_b250_0.take 2) h_b250_0)]
set_option maxRecDepth 1000000 in
theorem ck_b250_e : e2_run (e2_cal S_b250 I_b250 4000 0) (e2_fin rs_b250) e2x_255 (e2_bpL cl_b250_e) (e2_cutA cl_b250_e) 4000 (e2_seek e2x_255 0) (e2_al 2 as_b250) [] E_b250 f_b250 = true := by decide +kernel
noncomputable def cl_b250_0 : List (Nat × e2_S) := [(2, e2_cutL (al_b250_0.set 1 (13, 10, 2147483674)) 2 (E_b250_0.take 2) h_b250_0)]
set_option maxRecDepth 1000000 in
theorem ck_b250_0 : e2_runM (e2_cal S_b250 I_b250 4000 0) (e2_fin rs_b250) e2x_255 (e2_bpL cl_b250_0) (e2_cutA cl_b250_0) 4000 (e2_seek e2x_255 2) al_b250_0 [] E_b250_0 h_b250_0 = true := by decide +kernel
set_option maxRecDepth 1000000 in
theorem ci_b250_0 : e2_idl 2 (al_b250_0.set 1 (9, 0, 0)) = true := by decide +kernel
set_option maxRecDepth 1000000 in
theorem cj_b250_0 : e2_idh 2 8 h_b250_0 = true := by decide +kernel
theorem cs_b250 (hen : en_ok) (l : Launch) : e2_smOk l 1 s_b250 := by
  refine e2_conG (H := 0) (n := 0) (C := evd_255) (S := S_b250) (I := I_b250) (fuel := 4000) hen ei_255 e2_fz e2_fz (by decide) co_b250 fun M d _ hC hcall p e R s m args below meth c Q D cA A ads r0 ha hl0 => ?_
  have L_0 : e2_gdM M p l e R s m args below meth c Q D cA A ads r0 2 al_b250_0 [] E_b250_0 h_b250_0 := by
    refine e2_indL (u := 2) (j := 1) (lo := 2147483648) (hi := 2147483674) (b := 2) (dd := 0) hl0 (by decide) rfl rfl (Or.inr ⟨rfl, rfl⟩) rfl ci_b250_0 cj_b250_0 ?_
    intro r_0 k_0 hk_0 hp_0 hs_0 hn_0
    have hl_0 : r_0.length ≤ 3 := hs_0.len rfl
    have ha_0 := ha.ext hp_0
    exact e2_fromM hen ha_0 hcall (e2_cutA_ok (e2_fa (fun al st E h hc => hn_0 al st E h hc) e2_fz)) (hC [12]) (X := e2x_255) ex2_255 2 ck_b250_0
  have EN_0 := e2_entL (u := 2) (j := 1) (lo := 2147483648) (hi := 2147483674) hl0 rfl rfl rfl ci_b250_0 cj_b250_0 L_0
  exact e2_from hen ha hcall (e2_cutA_ok (e2_fa (fun al st E h hc => EN_0 al st E h hc) e2_fz)) (hC [12]) (X := e2x_255) ex2_255 0 ck_b250_e
/-! b251 X10_will -/
def as_b251 : List ev_V := [(2, 83, 0), (11, 0, 4294967295), (11, 0, 4294967295)]
def E_b251 : e2_E := [(2147483648, 2147583648, 0, 0), (2147483648, 2147483656, 1, 0)]
def bn2034 : e2_Q8 := (bn2026, bn2019)
noncomputable def f_b251 : ev_H := (bn2034 : e2_Q8)
noncomputable def q_b251_0 : ev_H := (bn2034 : e2_Q8)
noncomputable def rs_b251 : e2_Rs := [((11, 0, 4294967295), q_b251_0)]
noncomputable def s_b251 : e2_Sm := (256, as_b251, E_b251, f_b251, rs_b251)
noncomputable def S_b251 : List e2_Sm := [s_b249, s_b250]
noncomputable def I_b251 : List e2_In := [(212, 3, e2x_212), (220, 2, e2x_220)]
set_option maxRecDepth 1000000 in
theorem ck_b251 : e2_run (e2_cal S_b251 I_b251 4000 2) (e2_fin rs_b251) e2x_256 (fun _ => false) (fun _ _ _ _ _ => false) 4000 (e2_seek e2x_256 0) (e2_al 4 as_b251) [] E_b251 f_b251 = true := by decide +kernel
set_option maxRecDepth 1000000 in
theorem co_b251 : e2_okSB E_b251.length as_b251 f_b251 rs_b251 = true := by decide +kernel
theorem cs_b251 (hen : en_ok) (l : Launch) (hh : e2_hand_b l) : e2_smOk l 69 s_b251 := e2_con0 (H := 66) (n := 2) (C := evd_256) (S := S_b251) (I := I_b251) (fuel := 4000) [] hen ei_256 (e2_fa (cs_b249 hen l hh) (e2_fa ((cs_b250 hen l).mono (by decide)) e2_fz)) (e2_fa ein_212 (e2_fa ein_220 e2_fz)) (by decide) co_b251 ex2_256 ck_b251
/-! b252 X10_field -/
def as_b252 : List ev_V := [(2, 83, 0), (11, 0, 4294967295)]
def E_b252 : e2_E := [(2147483648, 2147583648, 0, 0), (2147483648, 2147483656, 1, 0)]
noncomputable def f_b252 : ev_H := (bn2027 : e2_Q8)
noncomputable def q_b252_0 : ev_H := (bn2027 : e2_Q8)
noncomputable def rs_b252 : e2_Rs := [((11, 0, 4294967295), q_b252_0)]
noncomputable def s_b252 : e2_Sm := (257, as_b252, E_b252, f_b252, rs_b252)
noncomputable def S_b252 : List e2_Sm := [s_b214, s_b249, s_b250]
noncomputable def I_b252 : List e2_In := [(212, 3, e2x_212)]
set_option maxRecDepth 1000000 in
theorem ck_b252 : e2_run (e2_cal S_b252 I_b252 4000 1) (e2_fin rs_b252) e2x_257 (fun _ => false) (fun _ _ _ _ _ => false) 4000 (e2_seek e2x_257 0) (e2_al 3 as_b252) [] E_b252 f_b252 = true := by decide +kernel
set_option maxRecDepth 1000000 in
theorem co_b252 : e2_okSB E_b252.length as_b252 f_b252 rs_b252 = true := by decide +kernel
theorem cs_b252 (hen : en_ok) (l : Launch) (hh : e2_hand_b l) : e2_smOk l 68 s_b252 := e2_con0 (H := 66) (n := 1) (C := evd_257) (S := S_b252) (I := I_b252) (fuel := 4000) [] hen ei_257 (e2_fa ((cs_b214 hen l).mono (by decide)) (e2_fa (cs_b249 hen l hh) (e2_fa ((cs_b250 hen l).mono (by decide)) e2_fz))) (e2_fa ein_212 e2_fz) (by decide) co_b252 ex2_257 ck_b252
/-! b253 X10_harm -/
def as_b253 : List ev_V := [(2, 83, 0)]
def E_b253 : e2_E := [(2147483648, 2147583648, 0, 0), (2147483648, 2147483656, 1, 0)]
noncomputable def f_b253 : ev_H := (bn1949 : e2_Q8)
noncomputable def q_b253_0 : ev_H := (bn1949 : e2_Q8)
noncomputable def rs_b253 : e2_Rs := [((11, 2147483648, 2147483649), q_b253_0)]
noncomputable def s_b253 : e2_Sm := (258, as_b253, E_b253, f_b253, rs_b253)
noncomputable def S_b253 : List e2_Sm := [s_b230, s_b232]
noncomputable def I_b253 : List e2_In := []
set_option maxRecDepth 1000000 in
theorem ck_b253 : e2_run (e2_cal S_b253 I_b253 4000 0) (e2_fin rs_b253) e2x_258 (fun _ => false) (fun _ _ _ _ _ => false) 4000 (e2_seek e2x_258 0) (e2_al 1 as_b253) [] E_b253 f_b253 = true := by decide +kernel
set_option maxRecDepth 1000000 in
theorem co_b253 : e2_okSB E_b253.length as_b253 f_b253 rs_b253 = true := by decide +kernel
theorem cs_b253 (hen : en_ok) (l : Launch) (hh : e2_hand_b l) : e2_smOk l 64 s_b253 := e2_con0 (H := 63) (n := 0) (C := evd_258) (S := S_b253) (I := I_b253) (fuel := 4000) [] hen ei_258 (e2_fa (cs_b230 hen l hh) (e2_fa ((cs_b232 hen l).mono (by decide)) e2_fz)) e2_fz (by decide) co_b253 ex2_258 ck_b253
/-! b254 X10_isWanted -/
def as_b254 : List ev_V := [(2, 83, 0), (11, 0, 4294967295), (11, 2147483648, 2147483649)]
def E_b254 : e2_E := [(2147483648, 2147583648, 0, 0), (2147483648, 2147483656, 1, 0)]
def bn2035 : e2_Q6 := (bn1923, bn1316)
def bn2036 : e2_Q7 := (bn1372, bn2035)
def bn2037 : e2_Q2 := (bn152, bn2009)
def bn2038 : e2_Q3 := (bn151, bn2037)
def bn2039 : e2_Q4 := (bn148, bn2038)
def bn2040 : e2_Q5 := (bn1336, bn2039)
def bn2041 : e2_Q6 := (bn2040, bn1383)
def bn2042 : e2_Q5 := (bn1945, bn289)
def bn2043 : e2_Q6 := (bn2042, bn250)
def bn2044 : e2_Q7 := (bn2041, bn2043)
def bn2045 : e2_Q8 := (bn2036, bn2044)
noncomputable def f_b254 : ev_H := (bn2045 : e2_Q8)
noncomputable def q_b254_0 : ev_H := (bn2045 : e2_Q8)
noncomputable def rs_b254 : e2_Rs := [((11, 2147483648, 2147483649), q_b254_0)]
noncomputable def s_b254 : e2_Sm := (259, as_b254, E_b254, f_b254, rs_b254)
noncomputable def S_b254 : List e2_Sm := [s_b229, s_b231]
noncomputable def I_b254 : List e2_In := [(227, 2, e2x_227), (232, 1, e2x_232)]
set_option maxRecDepth 1000000 in
theorem co_b254 : e2_okSB E_b254.length as_b254 f_b254 rs_b254 = true := by decide +kernel
def al_b254_0 : List ev_V := [(2, 83, 0), (11, 0, 4294967295), (0, 1, 0), (1, 2, 4294967296)]
def E_b254_0 : e2_E := [(2147483648, 2147583648, 0, 0), (2147483648, 2147483656, 1, 0), (2147483648, 2147483668, 2, 0)]
noncomputable def h_b254_0 : ev_H := (bn2045 : e2_Q8)
noncomputable def cl_b254_e : List (Nat × e2_S) := [(58, e2_cutL (al_b254_0.set 3 (11, 2147483648, 2147483668)) 2 (E_b254_0.take 2) h_b254_0)]
set_option maxRecDepth 1000000 in
theorem ck_b254_e : e2_run (e2_cal S_b254 I_b254 4000 2) (e2_fin rs_b254) e2x_259 (e2_bpL cl_b254_e) (e2_cutA cl_b254_e) 4000 (e2_seek e2x_259 0) (e2_al 4 as_b254) [] E_b254 f_b254 = true := by decide +kernel
noncomputable def cl_b254_0 : List (Nat × e2_S) := [(58, e2_cutL (al_b254_0.set 3 (13, 10, 2147483668)) 2 (E_b254_0.take 2) h_b254_0)]
set_option maxRecDepth 1000000 in
theorem ck_b254_0 : e2_runM (e2_cal S_b254 I_b254 4000 2) (e2_fin rs_b254) e2x_259 (e2_bpL cl_b254_0) (e2_cutA cl_b254_0) 4000 (e2_seek e2x_259 58) al_b254_0 [] E_b254_0 h_b254_0 = true := by decide +kernel
set_option maxRecDepth 1000000 in
theorem ci_b254_0 : e2_idl 2 (al_b254_0.set 3 (9, 0, 0)) = true := by decide +kernel
set_option maxRecDepth 1000000 in
theorem cj_b254_0 : e2_idh 2 8 h_b254_0 = true := by decide +kernel
theorem cs_b254 (hen : en_ok) (l : Launch) : e2_smOk l 8 s_b254 := by
  refine e2_conG (H := 5) (n := 2) (C := evd_259) (S := S_b254) (I := I_b254) (fuel := 4000) hen ei_259 (e2_fa (cs_b229 hen l) (e2_fa ((cs_b231 hen l).mono (by decide)) e2_fz)) (e2_fa ein_227 (e2_fa ein_232 e2_fz)) (by decide) co_b254 fun M d _ hC hcall p e R s m args below meth c Q D cA A ads r0 ha hl0 => ?_
  have L_0 : e2_gdM M p l e R s m args below meth c Q D cA A ads r0 58 al_b254_0 [] E_b254_0 h_b254_0 := by
    refine e2_indL (u := 2) (j := 3) (lo := 2147483648) (hi := 2147483668) (b := 2) (dd := 0) hl0 (by decide) rfl rfl (Or.inr ⟨rfl, rfl⟩) rfl ci_b254_0 cj_b254_0 ?_
    intro r_0 k_0 hk_0 hp_0 hs_0 hn_0
    have hl_0 : r_0.length ≤ 3 := hs_0.len rfl
    have ha_0 := ha.ext hp_0
    exact e2_fromM hen ha_0 hcall (e2_cutA_ok (e2_fa (fun al st E h hc => hn_0 al st E h hc) e2_fz)) (hC []) (X := e2x_259) ex2_259 58 ck_b254_0
  have EN_0 := e2_entL (u := 2) (j := 3) (lo := 2147483648) (hi := 2147483668) hl0 rfl rfl rfl ci_b254_0 cj_b254_0 L_0
  exact e2_from hen ha hcall (e2_cutA_ok (e2_fa (fun al st E h hc => EN_0 al st E h hc) e2_fz)) (hC []) (X := e2x_259) ex2_259 0 ck_b254_e
/-! b255 X10_change -/
def as_b255 : List ev_V := [(2, 83, 0), (11, 2147483648, 2147483649)]
def E_b255 : e2_E := [(2147483648, 2147583648, 0, 0), (2147483648, 2147483656, 1, 0)]
def bn2046 : e2_Q5 := (bn1918, bn1341)
def bn2047 : e2_Q6 := (bn2046, bn1371)
def bn2048 : e2_Q7 := (bn2047, bn2035)
def bn2049 : e2_Q5 := (bn1945, bn393)
def bn2050 : e2_Q5 := (bn2012, bn249)
def bn2051 : e2_Q6 := (bn2049, bn2050)
def bn2052 : e2_Q7 := (bn2041, bn2051)
def bn2053 : e2_Q8 := (bn2048, bn2052)
noncomputable def f_b255 : ev_H := (bn2053 : e2_Q8)
noncomputable def q_b255_0 : ev_H := (bn2053 : e2_Q8)
noncomputable def rs_b255 : e2_Rs := [((11, 2147483647, 2147483651), q_b255_0)]
noncomputable def s_b255 : e2_Sm := (260, as_b255, E_b255, f_b255, rs_b255)
noncomputable def S_b255 : List e2_Sm := [s_b215, s_b254]
noncomputable def I_b255 : List e2_In := [(216, 1, e2x_216)]
set_option maxRecDepth 1000000 in
theorem co_b255 : e2_okSB E_b255.length as_b255 f_b255 rs_b255 = true := by decide +kernel
def al_b255_0 : List ev_V := [(2, 83, 0), (11, 2147483648, 2147483649), (11, 0, 4294967295), (11, 0, 4294967295), (1, 2, 4294967296), (1, 3, 4294967296), (1, 4, 4294967296), (1, 5, 4294967296), (9, 0, 0)]
def E_b255_0 : e2_E := [(2147483648, 2147583648, 0, 0), (2147483648, 2147483656, 1, 0), (2147483649, 2147483651, 2, 0), (2147483648, 2147483667, 3, 0), (2147483648, 2147483667, 4, 0), (2147483648, 2147483668, 5, 0)]
noncomputable def h_b255_0 : ev_H := (bn2053 : e2_Q8)
def al_b255_1 : List ev_V := [(2, 83, 0), (11, 2147483648, 2147483649), (11, 0, 4294967295), (11, 0, 4294967295), (1, 2, 4294967296), (9, 0, 0), (9, 0, 0), (9, 0, 0), (9, 0, 0)]
def E_b255_1 : e2_E := [(2147483648, 2147583648, 0, 0), (2147483648, 2147483656, 1, 0), (2147483649, 2147483652, 2, 0)]
noncomputable def h_b255_1 : ev_H := (bn2053 : e2_Q8)
def al_b255_2 : List ev_V := [(2, 83, 0), (11, 2147483648, 2147483649), (11, 0, 4294967295), (11, 0, 4294967295), (1, 2, 4294967296), (1, 3, 4294967296), (9, 0, 0), (9, 0, 0), (9, 0, 0)]
def E_b255_2 : e2_E := [(2147483648, 2147583648, 0, 0), (2147483648, 2147483656, 1, 0), (2147483649, 2147483651, 2, 0), (2147483648, 2147483668, 3, 0)]
noncomputable def h_b255_2 : ev_H := (bn2053 : e2_Q8)
def al_b255_3 : List ev_V := [(2, 83, 0), (11, 2147483648, 2147483649), (11, 0, 4294967295), (11, 0, 4294967295), (1, 2, 4294967296), (1, 3, 4294967296), (1, 4, 4294967296), (9, 0, 0), (9, 0, 0)]
def E_b255_3 : e2_E := [(2147483648, 2147583648, 0, 0), (2147483648, 2147483656, 1, 0), (2147483649, 2147483651, 2, 0), (2147483648, 2147483667, 3, 0), (2147483648, 2147483668, 4, 0)]
noncomputable def h_b255_3 : ev_H := (bn2053 : e2_Q8)
noncomputable def cl_b255_e : List (Nat × e2_S) := [(40, e2_cutL (al_b255_1.set 4 (11, 2147483649, 2147483652)) 2 (E_b255_1.take 2) h_b255_1)]
set_option maxRecDepth 1000000 in
theorem ck_b255_e : e2_run (e2_cal S_b255 I_b255 4000 1) (e2_fin rs_b255) e2x_260 (e2_bpL cl_b255_e) (e2_cutA cl_b255_e) 4000 (e2_seek e2x_260 0) (e2_al 9 as_b255) [] E_b255 f_b255 = true := by decide +kernel
noncomputable def cl_b255_0 : List (Nat × e2_S) := [(109, e2_cutL (al_b255_0.set 7 (13, 13, 2147483668)) 5 (E_b255_0.take 5) h_b255_0),
  (74, e2_cutL (al_b255_3.set 6 (13, 12, 2147483668)) 4 (E_b255_3.take 4) h_b255_3)]
set_option maxRecDepth 1000000 in
theorem ck_b255_0 : e2_runM (e2_cal S_b255 I_b255 4000 1) (e2_fin rs_b255) e2x_260 (e2_bpL cl_b255_0) (e2_cutA cl_b255_0) 4000 (e2_seek e2x_260 109) al_b255_0 [] E_b255_0 h_b255_0 = true := by decide +kernel
set_option maxRecDepth 1000000 in
theorem ci_b255_0 : e2_idl 5 (al_b255_0.set 7 (9, 0, 0)) = true := by decide +kernel
set_option maxRecDepth 1000000 in
theorem cj_b255_0 : e2_idh 5 8 h_b255_0 = true := by decide +kernel
noncomputable def cl_b255_1 : List (Nat × e2_S) := [(49, e2_cutL (al_b255_2.set 5 (11, 2147483648, 2147483668)) 3 (E_b255_2.take 3) h_b255_2)]
set_option maxRecDepth 1000000 in
theorem ck_b255_1 : e2_runM (e2_cal S_b255 I_b255 4000 1) (e2_fin rs_b255) e2x_260 (e2_bpL cl_b255_1) (e2_cutA cl_b255_1) 4000 (e2_seek e2x_260 40) al_b255_1 [] E_b255_1 h_b255_1 = true := by decide +kernel
set_option maxRecDepth 1000000 in
theorem ci_b255_1 : e2_idl 2 (al_b255_1.set 4 (9, 0, 0)) = true := by decide +kernel
set_option maxRecDepth 1000000 in
theorem cj_b255_1 : e2_idh 2 8 h_b255_1 = true := by decide +kernel
noncomputable def cl_b255_2 : List (Nat × e2_S) := [(40, e2_cutL (al_b255_1.set 4 (13, 10, 2147483652)) 2 (E_b255_1.take 2) h_b255_1),
  (74, e2_cutL (al_b255_3.set 6 (11, 2147483648, 2147483668)) 4 (E_b255_3.take 4) h_b255_3)]
set_option maxRecDepth 1000000 in
theorem ck_b255_2 : e2_runM (e2_cal S_b255 I_b255 4000 1) (e2_fin rs_b255) e2x_260 (e2_bpL cl_b255_2) (e2_cutA cl_b255_2) 4000 (e2_seek e2x_260 49) al_b255_2 [] E_b255_2 h_b255_2 = true := by decide +kernel
set_option maxRecDepth 1000000 in
theorem ci_b255_2 : e2_idl 3 (al_b255_2.set 5 (9, 0, 0)) = true := by decide +kernel
set_option maxRecDepth 1000000 in
theorem cj_b255_2 : e2_idh 3 8 h_b255_2 = true := by decide +kernel
noncomputable def cl_b255_3 : List (Nat × e2_S) := [(109, e2_cutL (al_b255_0.set 7 (11, 2147483648, 2147483668)) 5 (E_b255_0.take 5) h_b255_0),
  (49, e2_cutL (al_b255_2.set 5 (13, 11, 2147483668)) 3 (E_b255_2.take 3) h_b255_2)]
set_option maxRecDepth 1000000 in
theorem ck_b255_3 : e2_runM (e2_cal S_b255 I_b255 4000 1) (e2_fin rs_b255) e2x_260 (e2_bpL cl_b255_3) (e2_cutA cl_b255_3) 4000 (e2_seek e2x_260 74) al_b255_3 [] E_b255_3 h_b255_3 = true := by decide +kernel
set_option maxRecDepth 1000000 in
theorem ci_b255_3 : e2_idl 4 (al_b255_3.set 6 (9, 0, 0)) = true := by decide +kernel
set_option maxRecDepth 1000000 in
theorem cj_b255_3 : e2_idh 4 8 h_b255_3 = true := by decide +kernel
theorem cs_b255 (hen : en_ok) (l : Launch) : e2_smOk l 10 s_b255 := by
  refine e2_conG (H := 8) (n := 1) (C := evd_260) (S := S_b255) (I := I_b255) (fuel := 4000) hen ei_260 (e2_fa ((cs_b215 hen l).mono (by decide)) (e2_fa (cs_b254 hen l) e2_fz)) (e2_fa ein_216 e2_fz) (by decide) co_b255 fun M d _ hC hcall p e R s m args below meth c Q D cA A ads r0 ha hl0 => ?_
  have L_1 : e2_gdM M p l e R s m args below meth c Q D cA A ads r0 40 al_b255_1 [] E_b255_1 h_b255_1 := by
    refine e2_indL (u := 2) (j := 4) (lo := 2147483649) (hi := 2147483652) (b := 2) (dd := 0) hl0 (by decide) rfl rfl (Or.inr ⟨rfl, rfl⟩) rfl ci_b255_1 cj_b255_1 ?_
    intro r_1 k_1 hk_1 hp_1 hs_1 hn_1
    have hl_1 : r_1.length ≤ 3 := hs_1.len rfl
    have ha_1 := ha.ext hp_1
    have L_2 : e2_gdM M p l e R s m args below meth c Q D cA A ads r_1 49 al_b255_2 [] E_b255_2 h_b255_2 := by
      refine e2_indL (u := 3) (j := 5) (lo := 2147483648) (hi := 2147483668) (b := 3) (dd := 0) hl_1 (by decide) rfl rfl (Or.inr ⟨rfl, rfl⟩) rfl ci_b255_2 cj_b255_2 ?_
      intro r_2 k_2 hk_2 hp_2 hs_2 hn_2
      have hl_2 : r_2.length ≤ 4 := hs_2.len rfl
      have ha_2 := ha_1.ext hp_2
      have L_3 : e2_gdM M p l e R s m args below meth c Q D cA A ads r_2 74 al_b255_3 [] E_b255_3 h_b255_3 := by
        refine e2_indL (u := 4) (j := 6) (lo := 2147483648) (hi := 2147483668) (b := 4) (dd := 0) hl_2 (by decide) rfl rfl (Or.inr ⟨rfl, rfl⟩) rfl ci_b255_3 cj_b255_3 ?_
        intro r_3 k_3 hk_3 hp_3 hs_3 hn_3
        have hl_3 : r_3.length ≤ 5 := hs_3.len rfl
        have ha_3 := ha_2.ext hp_3
        have L_0 : e2_gdM M p l e R s m args below meth c Q D cA A ads r_3 109 al_b255_0 [] E_b255_0 h_b255_0 := by
          refine e2_indL (u := 5) (j := 7) (lo := 2147483648) (hi := 2147483668) (b := 5) (dd := 0) hl_3 (by decide) rfl rfl (Or.inr ⟨rfl, rfl⟩) rfl ci_b255_0 cj_b255_0 ?_
          intro r_0 k_0 hk_0 hp_0 hs_0 hn_0
          have hl_0 : r_0.length ≤ 6 := hs_0.len rfl
          have ha_0 := ha_3.ext hp_0
          exact e2_fromM hen ha_0 hcall (e2_cutA_ok (e2_fa (fun al st E h hc => hn_0 al st E h hc) (e2_fa (fun al st E h hc => (hn_3 al st E h hc).ext hp_0) e2_fz))) (hC []) (X := e2x_260) ex2_260 109 ck_b255_0
        have EN_0 := e2_entL (u := 5) (j := 7) (lo := 2147483648) (hi := 2147483668) hl_3 rfl rfl rfl ci_b255_0 cj_b255_0 L_0
        exact e2_fromM hen ha_3 hcall (e2_cutA_ok (e2_fa (fun al st E h hc => EN_0 al st E h hc) (e2_fa (fun al st E h hc => (hn_2 al st E h hc).ext hp_3) e2_fz))) (hC []) (X := e2x_260) ex2_260 74 ck_b255_3
      have EN_3 := e2_entL (u := 4) (j := 6) (lo := 2147483648) (hi := 2147483668) hl_2 rfl rfl rfl ci_b255_3 cj_b255_3 L_3
      exact e2_fromM hen ha_2 hcall (e2_cutA_ok (e2_fa (fun al st E h hc => (hn_1 al st E h hc).ext hp_2) (e2_fa (fun al st E h hc => EN_3 al st E h hc) e2_fz))) (hC []) (X := e2x_260) ex2_260 49 ck_b255_2
    have EN_2 := e2_entL (u := 3) (j := 5) (lo := 2147483648) (hi := 2147483668) hl_1 rfl rfl rfl ci_b255_2 cj_b255_2 L_2
    exact e2_fromM hen ha_1 hcall (e2_cutA_ok (e2_fa (fun al st E h hc => EN_2 al st E h hc) e2_fz)) (hC []) (X := e2x_260) ex2_260 40 ck_b255_1
  have EN_1 := e2_entL (u := 2) (j := 4) (lo := 2147483649) (hi := 2147483652) hl0 rfl rfl rfl ci_b255_1 cj_b255_1 L_1
  exact e2_from hen ha hcall (e2_cutA_ok (e2_fa (fun al st E h hc => EN_1 al st E h hc) e2_fz)) (hC []) (X := e2x_260) ex2_260 0 ck_b255_e
/-! b256 X10_turn -/
def as_b256 : List ev_V := [(2, 83, 0), (11, 0, 4294967295), (11, 0, 4294967295)]
def E_b256 : e2_E := [(2147483648, 2147583648, 0, 0), (2147483648, 2147483656, 1, 0)]
def bn2054 : e2_Q6 := (bn2040, bn1927)
def bn2055 : e2_Q3 := (bn399, bn2010)
def bn2056 : e2_Q4 := (bn226, bn2055)
def bn2057 : e2_Q5 := (bn2056, bn329)
def bn2058 : e2_Q6 := (bn1946, bn2057)
def bn2059 : e2_Q7 := (bn2054, bn2058)
def bn2060 : e2_Q8 := (bn1925, bn2059)
noncomputable def f_b256 : ev_H := (bn2060 : e2_Q8)
noncomputable def q_b256_0 : ev_H := (bn2060 : e2_Q8)
noncomputable def rs_b256 : e2_Rs := [((11, 2147483647, 2147483651), q_b256_0)]
noncomputable def s_b256 : e2_Sm := (261, as_b256, E_b256, f_b256, rs_b256)
noncomputable def S_b256 : List e2_Sm := [s_b217, s_b255]
noncomputable def I_b256 : List e2_In := [(212, 3, e2x_212), (220, 2, e2x_220)]
set_option maxRecDepth 1000000 in
theorem ck_b256 : e2_run (e2_cal S_b256 I_b256 4000 2) (e2_fin rs_b256) e2x_261 (fun _ => false) (fun _ _ _ _ _ => false) 4000 (e2_seek e2x_261 0) (e2_al 3 as_b256) [] E_b256 f_b256 = true := by decide +kernel
set_option maxRecDepth 1000000 in
theorem co_b256 : e2_okSB E_b256.length as_b256 f_b256 rs_b256 = true := by decide +kernel
theorem cs_b256 (hen : en_ok) (l : Launch) (hh : e2_hand_b l) : e2_smOk l 65 s_b256 := e2_con0 (H := 62) (n := 2) (C := evd_261) (S := S_b256) (I := I_b256) (fuel := 4000) [] hen ei_261 (e2_fa (cs_b217 hen l hh) (e2_fa ((cs_b255 hen l).mono (by decide)) e2_fz)) (e2_fa ein_212 (e2_fa ein_220 e2_fz)) (by decide) co_b256 ex2_261 ck_b256
/-! b257 X10_plain -/
def as_b257 : List ev_V := [(2, 83, 0)]
def E_b257 : e2_E := [(2147483648, 2147583648, 0, 0), (2147483648, 2147483656, 1, 0)]
def bn2061 : e2_Q6 := (bn1946, bn2013)
def bn2062 : e2_Q7 := (bn2054, bn2061)
def bn2063 : e2_Q8 := (bn1925, bn2062)
noncomputable def f_b257 : ev_H := (bn2063 : e2_Q8)
noncomputable def q_b257_0 : ev_H := (bn2063 : e2_Q8)
noncomputable def rs_b257 : e2_Rs := [((11, 2147483647, 2147483651), q_b257_0)]
noncomputable def s_b257 : e2_Sm := (262, as_b257, E_b257, f_b257, rs_b257)
noncomputable def S_b257 : List e2_Sm := [s_b230, s_b255]
noncomputable def I_b257 : List e2_In := []
set_option maxRecDepth 1000000 in
theorem co_b257 : e2_okSB E_b257.length as_b257 f_b257 rs_b257 = true := by decide +kernel
def al_b257_0 : List ev_V := [(2, 83, 0), (1, 2, 4294967296)]
def E_b257_0 : e2_E := [(2147483648, 2147583648, 0, 0), (2147483648, 2147483656, 1, 0), (2147483648, 2147483668, 2, 0)]
noncomputable def h_b257_0 : ev_H := (bn2063 : e2_Q8)
noncomputable def cl_b257_e : List (Nat × e2_S) := [(24, e2_cutL (al_b257_0.set 1 (11, 2147483648, 2147483668)) 2 (E_b257_0.take 2) h_b257_0)]
set_option maxRecDepth 1000000 in
theorem ck_b257_e : e2_run (e2_cal S_b257 I_b257 4000 0) (e2_fin rs_b257) e2x_262 (e2_bpL cl_b257_e) (e2_cutA cl_b257_e) 4000 (e2_seek e2x_262 0) (e2_al 2 as_b257) [] E_b257 f_b257 = true := by decide +kernel
noncomputable def cl_b257_0 : List (Nat × e2_S) := [(24, e2_cutL (al_b257_0.set 1 (13, 10, 2147483668)) 2 (E_b257_0.take 2) h_b257_0)]
set_option maxRecDepth 1000000 in
theorem ck_b257_0 : e2_runM (e2_cal S_b257 I_b257 4000 0) (e2_fin rs_b257) e2x_262 (e2_bpL cl_b257_0) (e2_cutA cl_b257_0) 4000 (e2_seek e2x_262 24) al_b257_0 [] E_b257_0 h_b257_0 = true := by decide +kernel
set_option maxRecDepth 1000000 in
theorem ci_b257_0 : e2_idl 2 (al_b257_0.set 1 (9, 0, 0)) = true := by decide +kernel
set_option maxRecDepth 1000000 in
theorem cj_b257_0 : e2_idh 2 8 h_b257_0 = true := by decide +kernel
theorem cs_b257 (hen : en_ok) (l : Launch) (hh : e2_hand_b l) : e2_smOk l 64 s_b257 := by
  refine e2_conG (H := 63) (n := 0) (C := evd_262) (S := S_b257) (I := I_b257) (fuel := 4000) hen ei_262 (e2_fa (cs_b230 hen l hh) (e2_fa ((cs_b255 hen l).mono (by decide)) e2_fz)) e2_fz (by decide) co_b257 fun M d _ hC hcall p e R s m args below meth c Q D cA A ads r0 ha hl0 => ?_
  have L_0 : e2_gdM M p l e R s m args below meth c Q D cA A ads r0 24 al_b257_0 [] E_b257_0 h_b257_0 := by
    refine e2_indL (u := 2) (j := 1) (lo := 2147483648) (hi := 2147483668) (b := 2) (dd := 0) hl0 (by decide) rfl rfl (Or.inr ⟨rfl, rfl⟩) rfl ci_b257_0 cj_b257_0 ?_
    intro r_0 k_0 hk_0 hp_0 hs_0 hn_0
    have hl_0 : r_0.length ≤ 3 := hs_0.len rfl
    have ha_0 := ha.ext hp_0
    exact e2_fromM hen ha_0 hcall (e2_cutA_ok (e2_fa (fun al st E h hc => hn_0 al st E h hc) e2_fz)) (hC []) (X := e2x_262) ex2_262 24 ck_b257_0
  have EN_0 := e2_entL (u := 2) (j := 1) (lo := 2147483648) (hi := 2147483668) hl0 rfl rfl rfl ci_b257_0 cj_b257_0 L_0
  exact e2_from hen ha hcall (e2_cutA_ok (e2_fa (fun al st E h hc => EN_0 al st E h hc) e2_fz)) (hC []) (X := e2x_262) ex2_262 0 ck_b257_e
/-! b258 X10_isWritten -/
def as_b258 : List ev_V := [(2, 83, 0), (0, 1, 0)]
def E_b258 : e2_E := [(2147483648, 2147583648, 0, 0), (2147483648, 2147483656, 1, 0)]
def bc234 : ev_C := (50, [(11, 2147483648, 2147483655), (0, 4294967295, 0), (0, 4294967295, 0)])
def bn2064 : e2_Q1 := (bc234, bc3)
def bn2065 : e2_Q2 := (bn56, bn2064)
def bn2066 : e2_Q3 := (bn263, bn2065)
def bn2067 : e2_Q4 := (bn261, bn2066)
def bn2068 : e2_Q5 := (bn1370, bn2067)
def bn2069 : e2_Q6 := (bn1342, bn2068)
def bn2070 : e2_Q7 := (bn2069, bn1349)
def bc235 : ev_C := (54, [(0, 3, 0), (11, 0, 4294967295)])
def bn2071 : e2_Q1 := (bc235, bc3)
def bn2072 : e2_Q2 := (bn182, bn2071)
def bn2073 : e2_Q3 := (bn181, bn2072)
def bn2074 : e2_Q4 := (bn282, bn2073)
def bn2075 : e2_Q5 := (bn1382, bn2074)
def bn2076 : e2_Q6 := (bn1337, bn2075)
def bn2077 : e2_Q5 := (bn1354, bn393)
def bn2078 : e2_Q6 := (bn2077, bn250)
def bn2079 : e2_Q7 := (bn2076, bn2078)
def bn2080 : e2_Q8 := (bn2070, bn2079)
noncomputable def f_b258 : ev_H := (bn2080 : e2_Q8)
noncomputable def q_b258_0 : ev_H := (bn2080 : e2_Q8)
noncomputable def rs_b258 : e2_Rs := [((11, 2147483648, 2147483649), q_b258_0)]
noncomputable def s_b258 : e2_Sm := (266, as_b258, E_b258, f_b258, rs_b258)
noncomputable def S_b258 : List e2_Sm := [s_b229]
noncomputable def I_b258 : List e2_In := [(227, 2, e2x_227), (232, 1, e2x_232)]
set_option maxRecDepth 1000000 in
theorem ck_b258 : e2_run (e2_cal S_b258 I_b258 4000 2) (e2_fin rs_b258) e2x_266 (fun _ => false) (fun _ _ _ _ _ => false) 4000 (e2_seek e2x_266 0) (e2_al 4 as_b258) [] E_b258 f_b258 = true := by decide +kernel
set_option maxRecDepth 1000000 in
theorem co_b258 : e2_okSB E_b258.length as_b258 f_b258 rs_b258 = true := by decide +kernel
theorem cs_b258 (hen : en_ok) (l : Launch) : e2_smOk l 8 s_b258 := e2_con0 (H := 5) (n := 2) (C := evd_266) (S := S_b258) (I := I_b258) (fuel := 4000) [] hen ei_266 (e2_fa (cs_b229 hen l) e2_fz) (e2_fa ein_227 (e2_fa ein_232 e2_fz)) (by decide) co_b258 ex2_266 ck_b258
/-! b259 X10_isWritten -/
def as_b259 : List ev_V := [(2, 83, 0), (0, 2, 0)]
def E_b259 : e2_E := [(2147483648, 2147583648, 0, 0), (2147483648, 2147483656, 1, 0)]
def bc236 : ev_C := (50, [(11, 2147483648, 2147483655), (11, 2147483648, 2147483655), (0, 4294967295, 0)])
def bn2081 : e2_Q1 := (bc236, bc3)
def bn2082 : e2_Q2 := (bn56, bn2081)
def bn2083 : e2_Q3 := (bn263, bn2082)
def bn2084 : e2_Q4 := (bn261, bn2083)
def bn2085 : e2_Q5 := (bn1370, bn2084)
def bn2086 : e2_Q6 := (bn1342, bn2085)
def bn2087 : e2_Q7 := (bn2086, bn1349)
def bn2088 : e2_Q8 := (bn2087, bn2079)
noncomputable def f_b259 : ev_H := (bn2088 : e2_Q8)
noncomputable def q_b259_0 : ev_H := (bn2088 : e2_Q8)
noncomputable def rs_b259 : e2_Rs := [((11, 2147483648, 2147483649), q_b259_0)]
noncomputable def s_b259 : e2_Sm := (266, as_b259, E_b259, f_b259, rs_b259)
noncomputable def S_b259 : List e2_Sm := [s_b229]
noncomputable def I_b259 : List e2_In := [(227, 2, e2x_227), (232, 1, e2x_232)]
set_option maxRecDepth 1000000 in
theorem ck_b259 : e2_run (e2_cal S_b259 I_b259 4000 2) (e2_fin rs_b259) e2x_266 (fun _ => false) (fun _ _ _ _ _ => false) 4000 (e2_seek e2x_266 0) (e2_al 4 as_b259) [] E_b259 f_b259 = true := by decide +kernel
set_option maxRecDepth 1000000 in
theorem co_b259 : e2_okSB E_b259.length as_b259 f_b259 rs_b259 = true := by decide +kernel
theorem cs_b259 (hen : en_ok) (l : Launch) : e2_smOk l 8 s_b259 := e2_con0 (H := 5) (n := 2) (C := evd_266) (S := S_b259) (I := I_b259) (fuel := 4000) [] hen ei_266 (e2_fa (cs_b229 hen l) e2_fz) (e2_fa ein_227 (e2_fa ein_232 e2_fz)) (by decide) co_b259 ex2_266 ck_b259
/-! b260 X10_isWritten -/
def as_b260 : List ev_V := [(2, 83, 0), (0, 3, 0)]
def E_b260 : e2_E := [(2147483648, 2147583648, 0, 0), (2147483648, 2147483656, 1, 0)]
def bc237 : ev_C := (50, [(11, 2147483648, 2147483655), (11, 2147483648, 2147483655), (11, 2147483648, 2147483655)])
def bn2089 : e2_Q1 := (bc237, bc3)
def bn2090 : e2_Q2 := (bn56, bn2089)
def bn2091 : e2_Q3 := (bn263, bn2090)
def bn2092 : e2_Q4 := (bn261, bn2091)
def bn2093 : e2_Q5 := (bn1370, bn2092)
def bn2094 : e2_Q6 := (bn1342, bn2093)
def bn2095 : e2_Q7 := (bn2094, bn1349)
def bn2096 : e2_Q8 := (bn2095, bn2079)
noncomputable def f_b260 : ev_H := (bn2096 : e2_Q8)
noncomputable def q_b260_0 : ev_H := (bn2096 : e2_Q8)
noncomputable def rs_b260 : e2_Rs := [((11, 2147483648, 2147483649), q_b260_0)]
noncomputable def s_b260 : e2_Sm := (266, as_b260, E_b260, f_b260, rs_b260)
noncomputable def S_b260 : List e2_Sm := [s_b229]
noncomputable def I_b260 : List e2_In := [(227, 2, e2x_227), (232, 1, e2x_232)]
set_option maxRecDepth 1000000 in
theorem ck_b260 : e2_run (e2_cal S_b260 I_b260 4000 2) (e2_fin rs_b260) e2x_266 (fun _ => false) (fun _ _ _ _ _ => false) 4000 (e2_seek e2x_266 0) (e2_al 4 as_b260) [] E_b260 f_b260 = true := by decide +kernel
set_option maxRecDepth 1000000 in
theorem co_b260 : e2_okSB E_b260.length as_b260 f_b260 rs_b260 = true := by decide +kernel
theorem cs_b260 (hen : en_ok) (l : Launch) : e2_smOk l 8 s_b260 := e2_con0 (H := 5) (n := 2) (C := evd_266) (S := S_b260) (I := I_b260) (fuel := 4000) [] hen ei_266 (e2_fa (cs_b229 hen l) e2_fz) (e2_fa ein_227 (e2_fa ein_232 e2_fz)) (by decide) co_b260 ex2_266 ck_b260
/-! b261 X10_isPlaced -/
def as_b261 : List ev_V := [(2, 83, 0), (11, 2147483648, 2147483667), (0, 1, 0)]
def E_b261 : e2_E := [(2147483648, 2147583648, 0, 0), (2147483648, 2147483656, 1, 0)]
def bn2097 : e2_Q5 := (bn302, bn2067)
def bn2098 : e2_Q6 := (bn30, bn2097)
def bn2099 : e2_Q7 := (bn2098, bn1317)
def bn2100 : e2_Q5 := (bn337, bn2074)
def bn2101 : e2_Q6 := (bn279, bn2100)
def bn2102 : e2_Q7 := (bn2101, bn1320)
def bn2103 : e2_Q8 := (bn2099, bn2102)
noncomputable def f_b261 : ev_H := (bn2103 : e2_Q8)
noncomputable def q_b261_0 : ev_H := (bn2103 : e2_Q8)
noncomputable def rs_b261 : e2_Rs := [((11, 2147483648, 2147483649), q_b261_0)]
noncomputable def s_b261 : e2_Sm := (268, as_b261, E_b261, f_b261, rs_b261)
noncomputable def S_b261 : List e2_Sm := []
noncomputable def I_b261 : List e2_In := [(216, 1, e2x_216), (267, 2, e2x_267)]
set_option maxRecDepth 1000000 in
theorem ck_b261 : e2_run (e2_cal S_b261 I_b261 4000 1) (e2_fin rs_b261) e2x_268 (fun _ => false) (fun _ _ _ _ _ => false) 4000 (e2_seek e2x_268 0) (e2_al 5 as_b261) [] E_b261 f_b261 = true := by decide +kernel
set_option maxRecDepth 1000000 in
theorem co_b261 : e2_okSB E_b261.length as_b261 f_b261 rs_b261 = true := by decide +kernel
theorem cs_b261 (hen : en_ok) (l : Launch) : e2_smOk l 2 s_b261 := e2_con0 (H := 0) (n := 1) (C := evd_268) (S := S_b261) (I := I_b261) (fuel := 4000) [] hen ei_268 e2_fz (e2_fa ein_216 (e2_fa ein_267 e2_fz)) (by decide) co_b261 ex2_268 ck_b261
/-! b262 X10_isPlaced -/
def as_b262 : List ev_V := [(2, 83, 0), (11, 2147483648, 2147484160), (0, 2, 0)]
def E_b262 : e2_E := [(2147483648, 2147583648, 0, 0), (2147483648, 2147483656, 1, 0)]
def bn2104 : e2_Q5 := (bn302, bn2084)
def bn2105 : e2_Q6 := (bn30, bn2104)
def bn2106 : e2_Q7 := (bn2105, bn1317)
def bn2107 : e2_Q8 := (bn2106, bn2102)
noncomputable def f_b262 : ev_H := (bn2107 : e2_Q8)
noncomputable def q_b262_0 : ev_H := (bn2107 : e2_Q8)
noncomputable def rs_b262 : e2_Rs := [((11, 2147483648, 2147483649), q_b262_0)]
noncomputable def s_b262 : e2_Sm := (268, as_b262, E_b262, f_b262, rs_b262)
noncomputable def S_b262 : List e2_Sm := []
noncomputable def I_b262 : List e2_In := [(216, 1, e2x_216), (267, 2, e2x_267)]
set_option maxRecDepth 1000000 in
theorem ck_b262 : e2_run (e2_cal S_b262 I_b262 4000 1) (e2_fin rs_b262) e2x_268 (fun _ => false) (fun _ _ _ _ _ => false) 4000 (e2_seek e2x_268 0) (e2_al 5 as_b262) [] E_b262 f_b262 = true := by decide +kernel
set_option maxRecDepth 1000000 in
theorem co_b262 : e2_okSB E_b262.length as_b262 f_b262 rs_b262 = true := by decide +kernel
theorem cs_b262 (hen : en_ok) (l : Launch) : e2_smOk l 2 s_b262 := e2_con0 (H := 0) (n := 1) (C := evd_268) (S := S_b262) (I := I_b262) (fuel := 4000) [] hen ei_268 e2_fz (e2_fa ein_216 (e2_fa ein_267 e2_fz)) (by decide) co_b262 ex2_268 ck_b262
/-! b263 X10_isPlaced -/
def as_b263 : List ev_V := [(2, 83, 0), (11, 2147483648, 2147493647), (0, 3, 0)]
def E_b263 : e2_E := [(2147483648, 2147583648, 0, 0), (2147483648, 2147483656, 1, 0)]
def bn2108 : e2_Q5 := (bn302, bn2092)
def bn2109 : e2_Q6 := (bn30, bn2108)
def bn2110 : e2_Q7 := (bn2109, bn1317)
def bn2111 : e2_Q8 := (bn2110, bn2102)
noncomputable def f_b263 : ev_H := (bn2111 : e2_Q8)
noncomputable def q_b263_0 : ev_H := (bn2111 : e2_Q8)
noncomputable def rs_b263 : e2_Rs := [((11, 2147483648, 2147483649), q_b263_0)]
noncomputable def s_b263 : e2_Sm := (268, as_b263, E_b263, f_b263, rs_b263)
noncomputable def S_b263 : List e2_Sm := []
noncomputable def I_b263 : List e2_In := [(216, 1, e2x_216), (267, 2, e2x_267)]
set_option maxRecDepth 1000000 in
theorem ck_b263 : e2_run (e2_cal S_b263 I_b263 4000 1) (e2_fin rs_b263) e2x_268 (fun _ => false) (fun _ _ _ _ _ => false) 4000 (e2_seek e2x_268 0) (e2_al 5 as_b263) [] E_b263 f_b263 = true := by decide +kernel
set_option maxRecDepth 1000000 in
theorem co_b263 : e2_okSB E_b263.length as_b263 f_b263 rs_b263 = true := by decide +kernel
theorem cs_b263 (hen : en_ok) (l : Launch) : e2_smOk l 2 s_b263 := e2_con0 (H := 0) (n := 1) (C := evd_268) (S := S_b263) (I := I_b263) (fuel := 4000) [] hen ei_268 e2_fz (e2_fa ein_216 (e2_fa ein_267 e2_fz)) (by decide) co_b263 ex2_268 ck_b263
/-! b264 X10_write -/
def as_b264 : List ev_V := [(2, 83, 0), (11, 0, 4294967295), (11, 0, 4294967295), (11, 0, 4294967295)]
def E_b264 : e2_E := [(2147483648, 2147583648, 0, 0), (2147483648, 2147483656, 1, 0)]
def bc238 : ev_C := (50, [(11, 2147483647, 2147483655), (11, 2147483647, 2147483655), (11, 2147483647, 2147483655)])
def bn2112 : e2_Q1 := (bc238, bc3)
def bn2113 : e2_Q2 := (bn56, bn2112)
def bn2114 : e2_Q3 := (bn263, bn2113)
def bn2115 : e2_Q4 := (bn52, bn2114)
def bn2116 : e2_Q5 := (bn1370, bn2115)
def bn2117 : e2_Q6 := (bn1919, bn2116)
def bn2118 : e2_Q7 := (bn2117, bn1924)
def bn2119 : e2_Q5 := (bn1926, bn2074)
def bn2120 : e2_Q6 := (bn1337, bn2119)
def bn2121 : e2_Q7 := (bn2120, bn2014)
def bn2122 : e2_Q8 := (bn2118, bn2121)
noncomputable def f_b264 : ev_H := (bn2122 : e2_Q8)
noncomputable def q_b264_0 : ev_H := (bn2122 : e2_Q8)
noncomputable def rs_b264 : e2_Rs := [((11, 2147483647, 2147483744), q_b264_0)]
noncomputable def s_b264 : e2_Sm := (269, as_b264, E_b264, f_b264, rs_b264)
noncomputable def S_b264 : List e2_Sm := [s_b68, s_b217, s_b258, s_b259, s_b260, s_b261, s_b262, s_b263]
noncomputable def I_b264 : List e2_In := [(212, 3, e2x_212), (216, 1, e2x_216), (217, 1, e2x_217), (219, 2, e2x_219)]
set_option maxRecDepth 1000000 in
theorem co_b264 : e2_okSB E_b264.length as_b264 f_b264 rs_b264 = true := by decide +kernel
def al_b264_0 : List ev_V := [(2, 83, 0), (11, 2147483648, 2147483655), (0, 4294967295, 0), (0, 4294967295, 0), (0, 1, 0), (11, 2147483652, 2147483668), (11, 2147483648, 2147483680), (1, 2, 4294967296), (9, 0, 0)]
def E_b264_0 : e2_E := [(2147483648, 2147583648, 0, 0), (2147483649, 2147483656, 1, 0), (2147483648, 2147483668, 2, 0)]
def bn2123 : e2_Q4 := (bn52, bn2066)
def bn2124 : e2_Q5 := (bn1370, bn2123)
def bn2125 : e2_Q6 := (bn1919, bn2124)
def bn2126 : e2_Q7 := (bn2125, bn1924)
def bn2127 : e2_Q8 := (bn2126, bn2121)
noncomputable def h_b264_0 : ev_H := (bn2127 : e2_Q8)
def al_b264_1 : List ev_V := [(2, 83, 0), (11, 2147483648, 2147483655), (11, 2147483648, 2147483655), (0, 4294967295, 0), (0, 2, 0), (11, 2147483664, 2147484048), (11, 2147483648, 2147483712), (1, 2, 4294967296), (9, 0, 0)]
def E_b264_1 : e2_E := [(2147483648, 2147583648, 0, 0), (2147483649, 2147483656, 1, 0), (2147483648, 2147484048, 2, 0)]
def bn2128 : e2_Q4 := (bn52, bn2083)
def bn2129 : e2_Q5 := (bn1370, bn2128)
def bn2130 : e2_Q6 := (bn1919, bn2129)
def bn2131 : e2_Q7 := (bn2130, bn1924)
def bn2132 : e2_Q8 := (bn2131, bn2121)
noncomputable def h_b264_1 : ev_H := (bn2132 : e2_Q8)
def al_b264_2 : List ev_V := [(2, 83, 0), (11, 2147483648, 2147483655), (11, 2147483648, 2147483655), (11, 2147483648, 2147483655), (0, 3, 0), (11, 2147483712, 2147491648), (11, 2147483648, 2147483744), (1, 2, 4294967296), (9, 0, 0)]
def E_b264_2 : e2_E := [(2147483648, 2147583648, 0, 0), (2147483649, 2147483656, 1, 0), (2147483648, 2147491648, 2, 0)]
def bn2133 : e2_Q4 := (bn52, bn2091)
def bn2134 : e2_Q5 := (bn1370, bn2133)
def bn2135 : e2_Q6 := (bn1919, bn2134)
def bn2136 : e2_Q7 := (bn2135, bn1924)
def bn2137 : e2_Q8 := (bn2136, bn2121)
noncomputable def h_b264_2 : ev_H := (bn2137 : e2_Q8)
noncomputable def cl_b264_e : List (Nat × e2_S) := [(154, e2_cutL (al_b264_0.set 7 (11, 2147483648, 2147483668)) 2 (E_b264_0.take 2) h_b264_0),
  (154, e2_cutL (al_b264_1.set 7 (11, 2147483648, 2147484048)) 2 (E_b264_1.take 2) h_b264_1),
  (154, e2_cutL (al_b264_2.set 7 (11, 2147483648, 2147491648)) 2 (E_b264_2.take 2) h_b264_2)]
set_option maxRecDepth 1000000 in
theorem ck_b264_e : e2_run (e2_cal S_b264 I_b264 4000 2) (e2_fin rs_b264) e2x_269 (e2_bpL cl_b264_e) (e2_cutA cl_b264_e) 4000 (e2_seek e2x_269 0) (e2_al 9 as_b264) [] E_b264 f_b264 = true := by decide +kernel
noncomputable def cl_b264_0 : List (Nat × e2_S) := [(154, e2_cutL (al_b264_0.set 7 (13, 10, 2147483668)) 2 (E_b264_0.take 2) h_b264_0)]
set_option maxRecDepth 1000000 in
theorem ck_b264_0 : e2_runM (e2_cal S_b264 I_b264 4000 2) (e2_fin rs_b264) e2x_269 (e2_bpL cl_b264_0) (e2_cutA cl_b264_0) 4000 (e2_seek e2x_269 154) al_b264_0 [] E_b264_0 h_b264_0 = true := by decide +kernel
set_option maxRecDepth 1000000 in
theorem ci_b264_0 : e2_idl 2 (al_b264_0.set 7 (9, 0, 0)) = true := by decide +kernel
set_option maxRecDepth 1000000 in
theorem cj_b264_0 : e2_idh 2 8 h_b264_0 = true := by decide +kernel
noncomputable def cl_b264_1 : List (Nat × e2_S) := [(154, e2_cutL (al_b264_1.set 7 (13, 10, 2147484048)) 2 (E_b264_1.take 2) h_b264_1)]
set_option maxRecDepth 1000000 in
theorem ck_b264_1 : e2_runM (e2_cal S_b264 I_b264 4000 2) (e2_fin rs_b264) e2x_269 (e2_bpL cl_b264_1) (e2_cutA cl_b264_1) 4000 (e2_seek e2x_269 154) al_b264_1 [] E_b264_1 h_b264_1 = true := by decide +kernel
set_option maxRecDepth 1000000 in
theorem ci_b264_1 : e2_idl 2 (al_b264_1.set 7 (9, 0, 0)) = true := by decide +kernel
set_option maxRecDepth 1000000 in
theorem cj_b264_1 : e2_idh 2 8 h_b264_1 = true := by decide +kernel
noncomputable def cl_b264_2 : List (Nat × e2_S) := [(154, e2_cutL (al_b264_2.set 7 (13, 10, 2147491648)) 2 (E_b264_2.take 2) h_b264_2)]
set_option maxRecDepth 1000000 in
theorem ck_b264_2 : e2_runM (e2_cal S_b264 I_b264 4000 2) (e2_fin rs_b264) e2x_269 (e2_bpL cl_b264_2) (e2_cutA cl_b264_2) 4000 (e2_seek e2x_269 154) al_b264_2 [] E_b264_2 h_b264_2 = true := by decide +kernel
set_option maxRecDepth 1000000 in
theorem ci_b264_2 : e2_idl 2 (al_b264_2.set 7 (9, 0, 0)) = true := by decide +kernel
set_option maxRecDepth 1000000 in
theorem cj_b264_2 : e2_idh 2 8 h_b264_2 = true := by decide +kernel
theorem cs_b264 (hen : en_ok) (l : Launch) (hh : e2_hand_b l) : e2_smOk l 65 s_b264 := by
  refine e2_conG (H := 62) (n := 2) (C := evd_269) (S := S_b264) (I := I_b264) (fuel := 4000) hen ei_269 (e2_fa (hh _ hm_b68) (e2_fa (cs_b217 hen l hh) (e2_fa ((cs_b258 hen l).mono (by decide)) (e2_fa ((cs_b259 hen l).mono (by decide)) (e2_fa ((cs_b260 hen l).mono (by decide)) (e2_fa ((cs_b261 hen l).mono (by decide)) (e2_fa ((cs_b262 hen l).mono (by decide)) (e2_fa ((cs_b263 hen l).mono (by decide)) e2_fz)))))))) (e2_fa ein_212 (e2_fa ein_216 (e2_fa ein_217 (e2_fa ein_219 e2_fz)))) (by decide) co_b264 fun M d _ hC hcall p e R s m args below meth c Q D cA A ads r0 ha hl0 => ?_
  have L_0 : e2_gdM M p l e R s m args below meth c Q D cA A ads r0 154 al_b264_0 [] E_b264_0 h_b264_0 := by
    refine e2_indL (u := 2) (j := 7) (lo := 2147483648) (hi := 2147483668) (b := 2) (dd := 0) hl0 (by decide) rfl rfl (Or.inr ⟨rfl, rfl⟩) rfl ci_b264_0 cj_b264_0 ?_
    intro r_0 k_0 hk_0 hp_0 hs_0 hn_0
    have hl_0 : r_0.length ≤ 3 := hs_0.len rfl
    have ha_0 := ha.ext hp_0
    exact e2_fromM hen ha_0 hcall (e2_cutA_ok (e2_fa (fun al st E h hc => hn_0 al st E h hc) e2_fz)) (hC []) (X := e2x_269) ex2_269 154 ck_b264_0
  have EN_0 := e2_entL (u := 2) (j := 7) (lo := 2147483648) (hi := 2147483668) hl0 rfl rfl rfl ci_b264_0 cj_b264_0 L_0
  have L_1 : e2_gdM M p l e R s m args below meth c Q D cA A ads r0 154 al_b264_1 [] E_b264_1 h_b264_1 := by
    refine e2_indL (u := 2) (j := 7) (lo := 2147483648) (hi := 2147484048) (b := 2) (dd := 0) hl0 (by decide) rfl rfl (Or.inr ⟨rfl, rfl⟩) rfl ci_b264_1 cj_b264_1 ?_
    intro r_1 k_1 hk_1 hp_1 hs_1 hn_1
    have hl_1 : r_1.length ≤ 3 := hs_1.len rfl
    have ha_1 := ha.ext hp_1
    exact e2_fromM hen ha_1 hcall (e2_cutA_ok (e2_fa (fun al st E h hc => hn_1 al st E h hc) e2_fz)) (hC []) (X := e2x_269) ex2_269 154 ck_b264_1
  have EN_1 := e2_entL (u := 2) (j := 7) (lo := 2147483648) (hi := 2147484048) hl0 rfl rfl rfl ci_b264_1 cj_b264_1 L_1
  have L_2 : e2_gdM M p l e R s m args below meth c Q D cA A ads r0 154 al_b264_2 [] E_b264_2 h_b264_2 := by
    refine e2_indL (u := 2) (j := 7) (lo := 2147483648) (hi := 2147491648) (b := 2) (dd := 0) hl0 (by decide) rfl rfl (Or.inr ⟨rfl, rfl⟩) rfl ci_b264_2 cj_b264_2 ?_
    intro r_2 k_2 hk_2 hp_2 hs_2 hn_2
    have hl_2 : r_2.length ≤ 3 := hs_2.len rfl
    have ha_2 := ha.ext hp_2
    exact e2_fromM hen ha_2 hcall (e2_cutA_ok (e2_fa (fun al st E h hc => hn_2 al st E h hc) e2_fz)) (hC []) (X := e2x_269) ex2_269 154 ck_b264_2
  have EN_2 := e2_entL (u := 2) (j := 7) (lo := 2147483648) (hi := 2147491648) hl0 rfl rfl rfl ci_b264_2 cj_b264_2 L_2
  exact e2_from hen ha hcall (e2_cutA_ok (e2_fa (fun al st E h hc => EN_0 al st E h hc) (e2_fa (fun al st E h hc => EN_1 al st E h hc) (e2_fa (fun al st E h hc => EN_2 al st E h hc) e2_fz)))) (hC []) (X := e2x_269) ex2_269 0 ck_b264_e
/-! b265 X10_watch -/
def as_b265 : List ev_V := [(2, 83, 0)]
def E_b265 : e2_E := [(2147483648, 2147583648, 0, 0), (2147483648, 2147483656, 1, 0)]
noncomputable def f_b265 : ev_H := (bn1949 : e2_Q8)
noncomputable def q_b265_0 : ev_H := (bn1949 : e2_Q8)
noncomputable def rs_b265 : e2_Rs := [((11, 0, 4294967295), q_b265_0)]
noncomputable def s_b265 : e2_Sm := (270, as_b265, E_b265, f_b265, rs_b265)
noncomputable def S_b265 : List e2_Sm := [s_b215, s_b216, s_b217, s_b229, s_b232]
noncomputable def I_b265 : List e2_In := [(215, 2, e2x_215), (216, 1, e2x_216)]
set_option maxRecDepth 1000000 in
theorem co_b265 : e2_okSB E_b265.length as_b265 f_b265 rs_b265 = true := by decide +kernel
def al_b265_0 : List ev_V := [(2, 83, 0), (11, 0, 4294967295), (1, 2, 4294967296)]
def E_b265_0 : e2_E := [(2147483648, 2147583648, 0, 0), (2147483648, 2147483656, 1, 0), (2147483648, 2147483668, 2, 0)]
noncomputable def h_b265_0 : ev_H := (bn1949 : e2_Q8)
noncomputable def cl_b265_e : List (Nat × e2_S) := [(8, e2_cutL (al_b265_0.set 2 (11, 2147483648, 2147483668)) 2 (E_b265_0.take 2) h_b265_0)]
set_option maxRecDepth 1000000 in
theorem ck_b265_e : e2_run (e2_cal S_b265 I_b265 4000 1) (e2_fin rs_b265) e2x_270 (e2_bpL cl_b265_e) (e2_cutA cl_b265_e) 4000 (e2_seek e2x_270 0) (e2_al 3 as_b265) [] E_b265 f_b265 = true := by decide +kernel
noncomputable def cl_b265_0 : List (Nat × e2_S) := [(8, e2_cutL (al_b265_0.set 2 (13, 10, 2147483668)) 2 (E_b265_0.take 2) h_b265_0)]
set_option maxRecDepth 1000000 in
theorem ck_b265_0 : e2_runM (e2_cal S_b265 I_b265 4000 1) (e2_fin rs_b265) e2x_270 (e2_bpL cl_b265_0) (e2_cutA cl_b265_0) 4000 (e2_seek e2x_270 8) al_b265_0 [] E_b265_0 h_b265_0 = true := by decide +kernel
set_option maxRecDepth 1000000 in
theorem ci_b265_0 : e2_idl 2 (al_b265_0.set 2 (9, 0, 0)) = true := by decide +kernel
set_option maxRecDepth 1000000 in
theorem cj_b265_0 : e2_idh 2 8 h_b265_0 = true := by decide +kernel
theorem cs_b265 (hen : en_ok) (l : Launch) (hh : e2_hand_b l) : e2_smOk l 64 s_b265 := by
  refine e2_conG (H := 62) (n := 1) (C := evd_270) (S := S_b265) (I := I_b265) (fuel := 4000) hen ei_270 (e2_fa ((cs_b215 hen l).mono (by decide)) (e2_fa ((cs_b216 hen l).mono (by decide)) (e2_fa (cs_b217 hen l hh) (e2_fa ((cs_b229 hen l).mono (by decide)) (e2_fa ((cs_b232 hen l).mono (by decide)) e2_fz))))) (e2_fa ein_215 (e2_fa ein_216 e2_fz)) (by decide) co_b265 fun M d _ hC hcall p e R s m args below meth c Q D cA A ads r0 ha hl0 => ?_
  have L_0 : e2_gdM M p l e R s m args below meth c Q D cA A ads r0 8 al_b265_0 [] E_b265_0 h_b265_0 := by
    refine e2_indL (u := 2) (j := 2) (lo := 2147483648) (hi := 2147483668) (b := 2) (dd := 0) hl0 (by decide) rfl rfl (Or.inr ⟨rfl, rfl⟩) rfl ci_b265_0 cj_b265_0 ?_
    intro r_0 k_0 hk_0 hp_0 hs_0 hn_0
    have hl_0 : r_0.length ≤ 3 := hs_0.len rfl
    have ha_0 := ha.ext hp_0
    exact e2_fromM hen ha_0 hcall (e2_cutA_ok (e2_fa (fun al st E h hc => hn_0 al st E h hc) e2_fz)) (hC []) (X := e2x_270) ex2_270 8 ck_b265_0
  have EN_0 := e2_entL (u := 2) (j := 2) (lo := 2147483648) (hi := 2147483668) hl0 rfl rfl rfl ci_b265_0 cj_b265_0 L_0
  exact e2_from hen ha hcall (e2_cutA_ok (e2_fa (fun al st E h hc => EN_0 al st E h hc) e2_fz)) (hC []) (X := e2x_270) ex2_270 0 ck_b265_e
