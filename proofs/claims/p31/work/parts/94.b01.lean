/-! CONTRACTS b, printed by a program -/
/-! b11 X10_mown -/
def as_b11 : List ev_V := [(2, 83, 0)]
def E_b11 : e2_E := [(2147483648, 2147583648, 0, 0), (2147483648, 2147483656, 1, 0), (2147483648, 2147483688, 2, 0), (2147483648, 2147483688, 3, 0)]
def bc145 : ev_C := (50, [(11, 2147483652, 2147483668), (11, 2147483648, 2147483668)])
def bn344 : e2_Q1 := (bc145, bc3)
def bn345 : e2_Q2 := (bn101, bn344)
def bn346 : e2_Q3 := (bn345, bn270)
def bn347 : e2_Q4 := (bn100, bn346)
def bn348 : e2_Q5 := (bn347, bn123)
def bn349 : e2_Q6 := (bn93, bn348)
def bn350 : e2_Q7 := (bn62, bn349)
def bn351 : e2_Q8 := (bn350, bn253)
noncomputable def f_b11 : ev_H := (bn351 : e2_Q8)
noncomputable def q_b11_0 : ev_H := (bn351 : e2_Q8)
noncomputable def rs_b11 : e2_Rs := [((11, 0, 4294967295), q_b11_0)]
noncomputable def s_b11 : e2_Sm := (221, as_b11, E_b11, f_b11, rs_b11)
noncomputable def S_b11 : List e2_Sm := []
noncomputable def I_b11 : List e2_In := [(216, 1, e2x_216)]
set_option maxRecDepth 1000000 in
theorem co_b11 : e2_okSB E_b11.length as_b11 f_b11 rs_b11 = true := by decide +kernel
def al_b11_0 : List ev_V := [(2, 83, 0), (11, 0, 4294967295), (1, 4, 4294967296)]
def E_b11_0 : e2_E := [(2147483648, 2147583648, 0, 0), (2147483648, 2147483656, 1, 0), (2147483648, 2147483688, 2, 0), (2147483648, 2147483688, 3, 0), (2147483648, 2147483668, 4, 0)]
noncomputable def h_b11_0 : ev_H := (bn351 : e2_Q8)
noncomputable def cl_b11_e : List (Nat × e2_S) := [(4, e2_cutL (al_b11_0.set 2 (11, 2147483648, 2147483668)) 4 (E_b11_0.take 4) h_b11_0)]
set_option maxRecDepth 1000000 in
theorem ck_b11_e : e2_run (e2_cal S_b11 I_b11 4000 1) (e2_fin rs_b11) e2x_221 (e2_bpL cl_b11_e) (e2_cutA cl_b11_e) 4000 (e2_seek e2x_221 0) (e2_al 3 as_b11) [] E_b11 f_b11 = true := by decide +kernel
noncomputable def cl_b11_0 : List (Nat × e2_S) := [(4, e2_cutL (al_b11_0.set 2 (13, 12, 2147483668)) 4 (E_b11_0.take 4) h_b11_0)]
set_option maxRecDepth 1000000 in
theorem ck_b11_0 : e2_runM (e2_cal S_b11 I_b11 4000 1) (e2_fin rs_b11) e2x_221 (e2_bpL cl_b11_0) (e2_cutA cl_b11_0) 4000 (e2_seek e2x_221 4) al_b11_0 [] E_b11_0 h_b11_0 = true := by decide +kernel
set_option maxRecDepth 1000000 in
theorem ci_b11_0 : e2_idl 4 (al_b11_0.set 2 (9, 0, 0)) = true := by decide +kernel
set_option maxRecDepth 1000000 in
theorem cj_b11_0 : e2_idh 4 8 h_b11_0 = true := by decide +kernel
theorem cs_b11 (hen : en_ok) (l : Launch) : e2_smOk l 2 s_b11 := by
  refine e2_conG (H := 0) (n := 1) (C := evd_221) (S := S_b11) (I := I_b11) (fuel := 4000) hen ei_221 e2_fz (e2_fa ein_216 e2_fz) (by decide) co_b11 fun M d _ hC hcall p e R s m args below meth c Q D cA A ads r0 ha hl0 => ?_
  have L_0 : e2_gdM M p l e R s m args below meth c Q D cA A ads r0 4 al_b11_0 [] E_b11_0 h_b11_0 := by
    refine e2_indL (u := 4) (j := 2) (lo := 2147483648) (hi := 2147483668) (b := 4) (dd := 0) hl0 (by decide) rfl rfl (Or.inr ⟨rfl, rfl⟩) rfl ci_b11_0 cj_b11_0 ?_
    intro r_0 k_0 hk_0 hp_0 hs_0 hn_0
    have hl_0 : r_0.length ≤ 5 := hs_0.len rfl
    have ha_0 := ha.ext hp_0
    exact e2_fromM hen ha_0 hcall (e2_cutA_ok (e2_fa (fun al st E h hc => hn_0 al st E h hc) e2_fz)) (hC []) (X := e2x_221) ex2_221 4 ck_b11_0
  have EN_0 := e2_entL (u := 4) (j := 2) (lo := 2147483648) (hi := 2147483668) hl0 rfl rfl rfl ci_b11_0 cj_b11_0 L_0
  exact e2_from hen ha hcall (e2_cutA_ok (e2_fa (fun al st E h hc => EN_0 al st E h hc) e2_fz)) (hC []) (X := e2x_221) ex2_221 0 ck_b11_e
/-! b12 X10_mown -/
def as_b12 : List ev_V := [(2, 83, 0)]
def E_b12 : e2_E := [(2147483648, 2147583648, 0, 0), (2147483648, 2147483656, 1, 0), (2147483648, 2147483688, 2, 0), (2147483648, 2147483688, 3, 0)]
def bn352 : e2_Q8 := (bn350, bn261)
noncomputable def f_b12 : ev_H := (bn352 : e2_Q8)
noncomputable def q_b12_0 : ev_H := (bn352 : e2_Q8)
noncomputable def rs_b12 : e2_Rs := [((11, 0, 4294967295), q_b12_0)]
noncomputable def s_b12 : e2_Sm := (221, as_b12, E_b12, f_b12, rs_b12)
noncomputable def S_b12 : List e2_Sm := []
noncomputable def I_b12 : List e2_In := [(216, 1, e2x_216)]
set_option maxRecDepth 1000000 in
theorem co_b12 : e2_okSB E_b12.length as_b12 f_b12 rs_b12 = true := by decide +kernel
def al_b12_0 : List ev_V := [(2, 83, 0), (11, 0, 4294967295), (1, 4, 4294967296)]
def E_b12_0 : e2_E := [(2147483648, 2147583648, 0, 0), (2147483648, 2147483656, 1, 0), (2147483648, 2147483688, 2, 0), (2147483648, 2147483688, 3, 0), (2147483648, 2147483668, 4, 0)]
noncomputable def h_b12_0 : ev_H := (bn352 : e2_Q8)
noncomputable def cl_b12_e : List (Nat × e2_S) := [(4, e2_cutL (al_b12_0.set 2 (11, 2147483648, 2147483668)) 4 (E_b12_0.take 4) h_b12_0)]
set_option maxRecDepth 1000000 in
theorem ck_b12_e : e2_run (e2_cal S_b12 I_b12 4000 1) (e2_fin rs_b12) e2x_221 (e2_bpL cl_b12_e) (e2_cutA cl_b12_e) 4000 (e2_seek e2x_221 0) (e2_al 3 as_b12) [] E_b12 f_b12 = true := by decide +kernel
noncomputable def cl_b12_0 : List (Nat × e2_S) := [(4, e2_cutL (al_b12_0.set 2 (13, 12, 2147483668)) 4 (E_b12_0.take 4) h_b12_0)]
set_option maxRecDepth 1000000 in
theorem ck_b12_0 : e2_runM (e2_cal S_b12 I_b12 4000 1) (e2_fin rs_b12) e2x_221 (e2_bpL cl_b12_0) (e2_cutA cl_b12_0) 4000 (e2_seek e2x_221 4) al_b12_0 [] E_b12_0 h_b12_0 = true := by decide +kernel
set_option maxRecDepth 1000000 in
theorem ci_b12_0 : e2_idl 4 (al_b12_0.set 2 (9, 0, 0)) = true := by decide +kernel
set_option maxRecDepth 1000000 in
theorem cj_b12_0 : e2_idh 4 8 h_b12_0 = true := by decide +kernel
theorem cs_b12 (hen : en_ok) (l : Launch) : e2_smOk l 2 s_b12 := by
  refine e2_conG (H := 0) (n := 1) (C := evd_221) (S := S_b12) (I := I_b12) (fuel := 4000) hen ei_221 e2_fz (e2_fa ein_216 e2_fz) (by decide) co_b12 fun M d _ hC hcall p e R s m args below meth c Q D cA A ads r0 ha hl0 => ?_
  have L_0 : e2_gdM M p l e R s m args below meth c Q D cA A ads r0 4 al_b12_0 [] E_b12_0 h_b12_0 := by
    refine e2_indL (u := 4) (j := 2) (lo := 2147483648) (hi := 2147483668) (b := 4) (dd := 0) hl0 (by decide) rfl rfl (Or.inr ⟨rfl, rfl⟩) rfl ci_b12_0 cj_b12_0 ?_
    intro r_0 k_0 hk_0 hp_0 hs_0 hn_0
    have hl_0 : r_0.length ≤ 5 := hs_0.len rfl
    have ha_0 := ha.ext hp_0
    exact e2_fromM hen ha_0 hcall (e2_cutA_ok (e2_fa (fun al st E h hc => hn_0 al st E h hc) e2_fz)) (hC []) (X := e2x_221) ex2_221 4 ck_b12_0
  have EN_0 := e2_entL (u := 4) (j := 2) (lo := 2147483648) (hi := 2147483668) hl0 rfl rfl rfl ci_b12_0 cj_b12_0 L_0
  exact e2_from hen ha hcall (e2_cutA_ok (e2_fa (fun al st E h hc => EN_0 al st E h hc) e2_fz)) (hC []) (X := e2x_221) ex2_221 0 ck_b12_e
/-! b13 X10_looks -/
def as_b13 : List ev_V := [(2, 83, 0)]
def E_b13 : e2_E := [(2147483648, 2147583648, 0, 0), (2147483648, 2147483656, 1, 0), (2147483648, 2147483688, 2, 0), (2147483648, 2147483688, 3, 0)]
def bc146 : ev_C := (50, [(11, 0, 4294967295), (11, 0, 4294967295)])
def bn353 : e2_Q1 := (bc146, bc3)
def bn354 : e2_Q2 := (bn212, bn353)
def bn355 : e2_Q3 := (bn354, bn217)
def bn356 : e2_Q4 := (bn211, bn355)
def bn357 : e2_Q5 := (bn204, bn356)
def bn358 : e2_Q6 := (bn357, bn251)
def bn359 : e2_Q7 := (bn189, bn358)
def bn360 : e2_Q8 := (bn350, bn359)
noncomputable def f_b13 : ev_H := (bn360 : e2_Q8)
noncomputable def q_b13_0 : ev_H := (bn360 : e2_Q8)
noncomputable def rs_b13 : e2_Rs := [((11, 0, 4294967295), q_b13_0)]
noncomputable def s_b13 : e2_Sm := (222, as_b13, E_b13, f_b13, rs_b13)
noncomputable def S_b13 : List e2_Sm := [s_b11]
noncomputable def I_b13 : List e2_In := []
set_option maxRecDepth 1000000 in
theorem ck_b13 : e2_run (e2_cal S_b13 I_b13 4000 0) (e2_fin rs_b13) e2x_222 (fun _ => false) (fun _ _ _ _ _ => false) 4000 (e2_seek e2x_222 0) (e2_al 1 as_b13) [] E_b13 f_b13 = true := by decide +kernel
set_option maxRecDepth 1000000 in
theorem co_b13 : e2_okSB E_b13.length as_b13 f_b13 rs_b13 = true := by decide +kernel
theorem cs_b13 (hen : en_ok) (l : Launch) : e2_smOk l 3 s_b13 := e2_con0 (H := 2) (n := 0) (C := evd_222) (S := S_b13) (I := I_b13) (fuel := 4000) [] hen ei_222 (e2_fa (cs_b11 hen l) e2_fz) e2_fz (by decide) co_b13 ex2_222 ck_b13
/-! b14 X10_looks -/
def as_b14 : List ev_V := [(2, 83, 0)]
def E_b14 : e2_E := [(2147483648, 2147583648, 0, 0), (2147483648, 2147483656, 1, 0), (2147483648, 2147483688, 2, 0), (2147483648, 2147483688, 3, 0)]
def bn361 : e2_Q5 := (bn258, bn356)
def bn362 : e2_Q6 := (bn361, bn251)
def bn363 : e2_Q7 := (bn189, bn362)
def bn364 : e2_Q8 := (bn350, bn363)
noncomputable def f_b14 : ev_H := (bn364 : e2_Q8)
noncomputable def q_b14_0 : ev_H := (bn364 : e2_Q8)
noncomputable def rs_b14 : e2_Rs := [((11, 0, 4294967295), q_b14_0)]
noncomputable def s_b14 : e2_Sm := (222, as_b14, E_b14, f_b14, rs_b14)
noncomputable def S_b14 : List e2_Sm := [s_b12]
noncomputable def I_b14 : List e2_In := []
set_option maxRecDepth 1000000 in
theorem ck_b14 : e2_run (e2_cal S_b14 I_b14 4000 0) (e2_fin rs_b14) e2x_222 (fun _ => false) (fun _ _ _ _ _ => false) 4000 (e2_seek e2x_222 0) (e2_al 1 as_b14) [] E_b14 f_b14 = true := by decide +kernel
set_option maxRecDepth 1000000 in
theorem co_b14 : e2_okSB E_b14.length as_b14 f_b14 rs_b14 = true := by decide +kernel
theorem cs_b14 (hen : en_ok) (l : Launch) : e2_smOk l 3 s_b14 := e2_con0 (H := 2) (n := 0) (C := evd_222) (S := S_b14) (I := I_b14) (fuel := 4000) [] hen ei_222 (e2_fa (cs_b12 hen l) e2_fz) e2_fz (by decide) co_b14 ex2_222 ck_b14
/-! b15 X10_openCells -/
def as_b15 : List ev_V := [(2, 83, 0)]
def E_b15 : e2_E := [(2147483648, 2147583648, 0, 0), (2147483648, 2147483656, 1, 0), (2147483648, 2147483688, 2, 0), (2147483648, 2147483688, 3, 0)]
noncomputable def f_b15 : ev_H := (bn360 : e2_Q8)
noncomputable def q_b15_0 : ev_H := (bn360 : e2_Q8)
noncomputable def rs_b15 : e2_Rs := [((11, 0, 4294967295), q_b15_0)]
noncomputable def s_b15 : e2_Sm := (223, as_b15, E_b15, f_b15, rs_b15)
noncomputable def S_b15 : List e2_Sm := [s_b13]
noncomputable def I_b15 : List e2_In := [(216, 1, e2x_216)]
set_option maxRecDepth 1000000 in
theorem ck_b15 : e2_run (e2_cal S_b15 I_b15 4000 1) (e2_fin rs_b15) e2x_223 (fun _ => false) (fun _ _ _ _ _ => false) 4000 (e2_seek e2x_223 0) (e2_al 1 as_b15) [] E_b15 f_b15 = true := by decide +kernel
set_option maxRecDepth 1000000 in
theorem co_b15 : e2_okSB E_b15.length as_b15 f_b15 rs_b15 = true := by decide +kernel
theorem cs_b15 (hen : en_ok) (l : Launch) : e2_smOk l 5 s_b15 := e2_con0 (H := 3) (n := 1) (C := evd_223) (S := S_b15) (I := I_b15) (fuel := 4000) [] hen ei_223 (e2_fa (cs_b13 hen l) e2_fz) (e2_fa ein_216 e2_fz) (by decide) co_b15 ex2_223 ck_b15
/-! b16 X10_layWeights -/
def as_b16 : List ev_V := [(2, 83, 0)]
def E_b16 : e2_E := [(2147483648, 2147583648, 0, 0), (2147483648, 2147483656, 1, 0), (2147483648, 2147483688, 2, 0), (2147483648, 2147483688, 3, 0)]
def bc147 : ev_C := (52, [(0, 0, 0), (0, 0, 0), (11, 2147483648, 2147483649), (11, 2147483648, 2147483649)])
def bn365 : e2_Q1 := (bc147, bc3)
def bn366 : e2_Q2 := (bn18, bn365)
def bn367 : e2_Q3 := (bn17, bn366)
def bc148 : ev_C := (50, [(1, 1, 4294967296), (11, 2147483648, 2147483656)])
def bn368 : e2_Q1 := (bc148, bc3)
def bn369 : e2_Q2 := (bn22, bn368)
def bn370 : e2_Q3 := (bn369, bn27)
def bn371 : e2_Q4 := (bn367, bn370)
def bn372 : e2_Q5 := (bn14, bn371)
def bn373 : e2_Q6 := (bn372, bn61)
def bc149 : ev_C := (50, [(11, 2147483648, 2147483651), (11, 2147483648, 2147483651), (11, 2147483648, 2147483651), (11, 2147483648, 2147483651), (11, 2147483648, 2147483651), (11, 2147483648, 2147483651), (11, 2147483648, 2147483651), (11, 2147483648, 2147483651), (11, 2147483648, 2147483651), (11, 2147483648, 2147483651), (11, 2147483648, 2147483651), (11, 2147483648, 2147483651), (11, 2147483648, 2147483651), (11, 2147483648, 2147483651), (11, 2147483648, 2147483651), (11, 2147483648, 2147483651)])
def bn374 : e2_Q1 := (bc149, bc3)
def bn375 : e2_Q2 := (bn66, bn374)
def bn376 : e2_Q3 := (bn65, bn375)
def bn377 : e2_Q4 := (bn376, bn76)
def bn378 : e2_Q5 := (bn377, bn92)
def bn379 : e2_Q6 := (bn378, bn348)
def bn380 : e2_Q7 := (bn373, bn379)
def bc150 : ev_C := (50, [(15, 1, 2147483654), (15, 9, 2147483654), (15, 17, 2147483654), (15, 25, 2147483654), (15, 33, 2147483654), (15, 41, 2147483654), (15, 49, 2147483654), (15, 57, 2147483654), (11, 2147483648, 2147483654), (11, 2147483648, 2147483654), (11, 2147483648, 2147483654), (11, 2147483648, 2147483654), (11, 2147483648, 2147483654), (11, 2147483648, 2147483654), (11, 2147483648, 2147483654), (11, 2147483648, 2147483654)])
def bn381 : e2_Q1 := (bc150, bc3)
def bn382 : e2_Q2 := (bn130, bn381)
def bn383 : e2_Q3 := (bn129, bn382)
def bc151 : ev_C := (54, [(0, 160, 0), (11, 0, 4294967295)])
def bn384 : e2_Q1 := (bc151, bc3)
def bn385 : e2_Q2 := (bn137, bn384)
def bn386 : e2_Q3 := (bn136, bn385)
def bn387 : e2_Q4 := (bn383, bn386)
def bn388 : e2_Q5 := (bn387, bn156)
def bn389 : e2_Q6 := (bn388, bn188)
def bn390 : e2_Q7 := (bn389, bn252)
def bn391 : e2_Q8 := (bn380, bn390)
noncomputable def f_b16 : ev_H := (bn391 : e2_Q8)
noncomputable def q_b16_0 : ev_H := (bn391 : e2_Q8)
noncomputable def rs_b16 : e2_Rs := [((9, 0, 0), q_b16_0)]
noncomputable def s_b16 : e2_Sm := (224, as_b16, E_b16, f_b16, rs_b16)
noncomputable def S_b16 : List e2_Sm := []
noncomputable def I_b16 : List e2_In := [(216, 1, e2x_216), (217, 1, e2x_217)]
set_option maxRecDepth 1000000 in
theorem co_b16 : e2_okSB E_b16.length as_b16 f_b16 rs_b16 = true := by decide +kernel
def al_b16_0 : List ev_V := [(2, 83, 0), (1, 4, 4294967296), (9, 0, 0), (9, 0, 0)]
def E_b16_0 : e2_E := [(2147483648, 2147583648, 0, 0), (2147483648, 2147483656, 1, 0), (2147483648, 2147483688, 2, 0), (2147483648, 2147483688, 3, 0), (2147483648, 2147483656, 4, 0)]
noncomputable def h_b16_0 : ev_H := (bn391 : e2_Q8)
def al_b16_1 : List ev_V := [(2, 83, 0), (1, 4, 4294967296), (11, 2147483648, 2147483655), (1, 5, 4294967296)]
def E_b16_1 : e2_E := [(2147483648, 2147583648, 0, 0), (2147483649, 2147483656, 1, 0), (2147483648, 2147483688, 2, 0), (2147483648, 2147483688, 3, 0), (2147483648, 2147483655, 4, 0), (2147483648, 2147483668, 5, 0)]
noncomputable def h_b16_1 : ev_H := (bn391 : e2_Q8)
noncomputable def cl_b16_e : List (Nat × e2_S) := [(12, e2_cutL (al_b16_0.set 1 (11, 2147483648, 2147483656)) 4 (E_b16_0.take 4) h_b16_0)]
set_option maxRecDepth 1000000 in
theorem ck_b16_e : e2_run (e2_cal S_b16 I_b16 4000 1) (e2_fin rs_b16) e2x_224 (e2_bpL cl_b16_e) (e2_cutA cl_b16_e) 4000 (e2_seek e2x_224 0) (e2_al 4 as_b16) [] E_b16 f_b16 = true := by decide +kernel
noncomputable def cl_b16_0 : List (Nat × e2_S) := [(60, e2_cutL (al_b16_1.set 3 (11, 2147483648, 2147483668)) 5 (E_b16_1.take 5) h_b16_1)]
set_option maxRecDepth 1000000 in
theorem ck_b16_0 : e2_runM (e2_cal S_b16 I_b16 4000 1) (e2_fin rs_b16) e2x_224 (e2_bpL cl_b16_0) (e2_cutA cl_b16_0) 4000 (e2_seek e2x_224 12) al_b16_0 [] E_b16_0 h_b16_0 = true := by decide +kernel
set_option maxRecDepth 1000000 in
theorem ci_b16_0 : e2_idl 4 (al_b16_0.set 1 (9, 0, 0)) = true := by decide +kernel
set_option maxRecDepth 1000000 in
theorem cj_b16_0 : e2_idh 4 8 h_b16_0 = true := by decide +kernel
noncomputable def cl_b16_1 : List (Nat × e2_S) := [(12, e2_cutL (al_b16_0.set 1 (13, 12, 2147483656)) 4 (E_b16_0.take 4) h_b16_0),
  (60, e2_cutL (al_b16_1.set 3 (13, 13, 2147483668)) 5 (E_b16_1.take 5) h_b16_1)]
set_option maxRecDepth 1000000 in
theorem ck_b16_1 : e2_runM (e2_cal S_b16 I_b16 4000 1) (e2_fin rs_b16) e2x_224 (e2_bpL cl_b16_1) (e2_cutA cl_b16_1) 4000 (e2_seek e2x_224 60) al_b16_1 [] E_b16_1 h_b16_1 = true := by decide +kernel
set_option maxRecDepth 1000000 in
theorem ci_b16_1 : e2_idl 5 (al_b16_1.set 3 (9, 0, 0)) = true := by decide +kernel
set_option maxRecDepth 1000000 in
theorem cj_b16_1 : e2_idh 5 8 h_b16_1 = true := by decide +kernel
theorem cs_b16 (hen : en_ok) (l : Launch) : e2_smOk l 2 s_b16 := by
  refine e2_conG (H := 0) (n := 1) (C := evd_224) (S := S_b16) (I := I_b16) (fuel := 4000) hen ei_224 e2_fz (e2_fa ein_216 (e2_fa ein_217 e2_fz)) (by decide) co_b16 fun M d _ hC hcall p e R s m args below meth c Q D cA A ads r0 ha hl0 => ?_
  have L_0 : e2_gdM M p l e R s m args below meth c Q D cA A ads r0 12 al_b16_0 [] E_b16_0 h_b16_0 := by
    refine e2_indL (u := 4) (j := 1) (lo := 2147483648) (hi := 2147483656) (b := 4) (dd := 0) hl0 (by decide) rfl rfl (Or.inr ⟨rfl, rfl⟩) rfl ci_b16_0 cj_b16_0 ?_
    intro r_0 k_0 hk_0 hp_0 hs_0 hn_0
    have hl_0 : r_0.length ≤ 5 := hs_0.len rfl
    have ha_0 := ha.ext hp_0
    have L_1 : e2_gdM M p l e R s m args below meth c Q D cA A ads r_0 60 al_b16_1 [] E_b16_1 h_b16_1 := by
      refine e2_indL (u := 5) (j := 3) (lo := 2147483648) (hi := 2147483668) (b := 5) (dd := 0) hl_0 (by decide) rfl rfl (Or.inr ⟨rfl, rfl⟩) rfl ci_b16_1 cj_b16_1 ?_
      intro r_1 k_1 hk_1 hp_1 hs_1 hn_1
      have hl_1 : r_1.length ≤ 6 := hs_1.len rfl
      have ha_1 := ha_0.ext hp_1
      exact e2_fromM hen ha_1 hcall (e2_cutA_ok (e2_fa (fun al st E h hc => (hn_0 al st E h hc).ext hp_1) (e2_fa (fun al st E h hc => hn_1 al st E h hc) e2_fz))) (hC []) (X := e2x_224) ex2_224 60 ck_b16_1
    have EN_1 := e2_entL (u := 5) (j := 3) (lo := 2147483648) (hi := 2147483668) hl_0 rfl rfl rfl ci_b16_1 cj_b16_1 L_1
    exact e2_fromM hen ha_0 hcall (e2_cutA_ok (e2_fa (fun al st E h hc => EN_1 al st E h hc) e2_fz)) (hC []) (X := e2x_224) ex2_224 12 ck_b16_0
  have EN_0 := e2_entL (u := 4) (j := 1) (lo := 2147483648) (hi := 2147483656) hl0 rfl rfl rfl ci_b16_0 cj_b16_0 L_0
  exact e2_from hen ha hcall (e2_cutA_ok (e2_fa (fun al st E h hc => EN_0 al st E h hc) e2_fz)) (hC []) (X := e2x_224) ex2_224 0 ck_b16_e
/-! b17 X10_layWeights -/
def as_b17 : List ev_V := [(2, 83, 0)]
def E_b17 : e2_E := [(2147483648, 2147583648, 0, 0), (2147483648, 2147483656, 1, 0), (2147483648, 2147483688, 2, 0), (2147483648, 2147483688, 3, 0)]
def bn392 : e2_Q7 := (bn389, bn260)
def bn393 : e2_Q8 := (bn380, bn392)
noncomputable def f_b17 : ev_H := (bn393 : e2_Q8)
noncomputable def q_b17_0 : ev_H := (bn393 : e2_Q8)
noncomputable def rs_b17 : e2_Rs := [((9, 0, 0), q_b17_0)]
noncomputable def s_b17 : e2_Sm := (224, as_b17, E_b17, f_b17, rs_b17)
noncomputable def S_b17 : List e2_Sm := []
noncomputable def I_b17 : List e2_In := [(216, 1, e2x_216), (217, 1, e2x_217)]
set_option maxRecDepth 1000000 in
theorem co_b17 : e2_okSB E_b17.length as_b17 f_b17 rs_b17 = true := by decide +kernel
def al_b17_0 : List ev_V := [(2, 83, 0), (1, 4, 4294967296), (9, 0, 0), (9, 0, 0)]
def E_b17_0 : e2_E := [(2147483648, 2147583648, 0, 0), (2147483648, 2147483656, 1, 0), (2147483648, 2147483688, 2, 0), (2147483648, 2147483688, 3, 0), (2147483648, 2147483656, 4, 0)]
noncomputable def h_b17_0 : ev_H := (bn393 : e2_Q8)
def al_b17_1 : List ev_V := [(2, 83, 0), (1, 4, 4294967296), (11, 2147483648, 2147483655), (1, 5, 4294967296)]
def E_b17_1 : e2_E := [(2147483648, 2147583648, 0, 0), (2147483649, 2147483656, 1, 0), (2147483648, 2147483688, 2, 0), (2147483648, 2147483688, 3, 0), (2147483648, 2147483655, 4, 0), (2147483648, 2147483668, 5, 0)]
noncomputable def h_b17_1 : ev_H := (bn393 : e2_Q8)
noncomputable def cl_b17_e : List (Nat × e2_S) := [(12, e2_cutL (al_b17_0.set 1 (11, 2147483648, 2147483656)) 4 (E_b17_0.take 4) h_b17_0)]
set_option maxRecDepth 1000000 in
theorem ck_b17_e : e2_run (e2_cal S_b17 I_b17 4000 1) (e2_fin rs_b17) e2x_224 (e2_bpL cl_b17_e) (e2_cutA cl_b17_e) 4000 (e2_seek e2x_224 0) (e2_al 4 as_b17) [] E_b17 f_b17 = true := by decide +kernel
noncomputable def cl_b17_0 : List (Nat × e2_S) := [(60, e2_cutL (al_b17_1.set 3 (11, 2147483648, 2147483668)) 5 (E_b17_1.take 5) h_b17_1)]
set_option maxRecDepth 1000000 in
theorem ck_b17_0 : e2_runM (e2_cal S_b17 I_b17 4000 1) (e2_fin rs_b17) e2x_224 (e2_bpL cl_b17_0) (e2_cutA cl_b17_0) 4000 (e2_seek e2x_224 12) al_b17_0 [] E_b17_0 h_b17_0 = true := by decide +kernel
set_option maxRecDepth 1000000 in
theorem ci_b17_0 : e2_idl 4 (al_b17_0.set 1 (9, 0, 0)) = true := by decide +kernel
set_option maxRecDepth 1000000 in
theorem cj_b17_0 : e2_idh 4 8 h_b17_0 = true := by decide +kernel
noncomputable def cl_b17_1 : List (Nat × e2_S) := [(12, e2_cutL (al_b17_0.set 1 (13, 12, 2147483656)) 4 (E_b17_0.take 4) h_b17_0),
  (60, e2_cutL (al_b17_1.set 3 (13, 13, 2147483668)) 5 (E_b17_1.take 5) h_b17_1)]
set_option maxRecDepth 1000000 in
theorem ck_b17_1 : e2_runM (e2_cal S_b17 I_b17 4000 1) (e2_fin rs_b17) e2x_224 (e2_bpL cl_b17_1) (e2_cutA cl_b17_1) 4000 (e2_seek e2x_224 60) al_b17_1 [] E_b17_1 h_b17_1 = true := by decide +kernel
set_option maxRecDepth 1000000 in
theorem ci_b17_1 : e2_idl 5 (al_b17_1.set 3 (9, 0, 0)) = true := by decide +kernel
set_option maxRecDepth 1000000 in
theorem cj_b17_1 : e2_idh 5 8 h_b17_1 = true := by decide +kernel
theorem cs_b17 (hen : en_ok) (l : Launch) : e2_smOk l 2 s_b17 := by
  refine e2_conG (H := 0) (n := 1) (C := evd_224) (S := S_b17) (I := I_b17) (fuel := 4000) hen ei_224 e2_fz (e2_fa ein_216 (e2_fa ein_217 e2_fz)) (by decide) co_b17 fun M d _ hC hcall p e R s m args below meth c Q D cA A ads r0 ha hl0 => ?_
  have L_0 : e2_gdM M p l e R s m args below meth c Q D cA A ads r0 12 al_b17_0 [] E_b17_0 h_b17_0 := by
    refine e2_indL (u := 4) (j := 1) (lo := 2147483648) (hi := 2147483656) (b := 4) (dd := 0) hl0 (by decide) rfl rfl (Or.inr ⟨rfl, rfl⟩) rfl ci_b17_0 cj_b17_0 ?_
    intro r_0 k_0 hk_0 hp_0 hs_0 hn_0
    have hl_0 : r_0.length ≤ 5 := hs_0.len rfl
    have ha_0 := ha.ext hp_0
    have L_1 : e2_gdM M p l e R s m args below meth c Q D cA A ads r_0 60 al_b17_1 [] E_b17_1 h_b17_1 := by
      refine e2_indL (u := 5) (j := 3) (lo := 2147483648) (hi := 2147483668) (b := 5) (dd := 0) hl_0 (by decide) rfl rfl (Or.inr ⟨rfl, rfl⟩) rfl ci_b17_1 cj_b17_1 ?_
      intro r_1 k_1 hk_1 hp_1 hs_1 hn_1
      have hl_1 : r_1.length ≤ 6 := hs_1.len rfl
      have ha_1 := ha_0.ext hp_1
      exact e2_fromM hen ha_1 hcall (e2_cutA_ok (e2_fa (fun al st E h hc => (hn_0 al st E h hc).ext hp_1) (e2_fa (fun al st E h hc => hn_1 al st E h hc) e2_fz))) (hC []) (X := e2x_224) ex2_224 60 ck_b17_1
    have EN_1 := e2_entL (u := 5) (j := 3) (lo := 2147483648) (hi := 2147483668) hl_0 rfl rfl rfl ci_b17_1 cj_b17_1 L_1
    exact e2_fromM hen ha_0 hcall (e2_cutA_ok (e2_fa (fun al st E h hc => EN_1 al st E h hc) e2_fz)) (hC []) (X := e2x_224) ex2_224 12 ck_b17_0
  have EN_0 := e2_entL (u := 4) (j := 1) (lo := 2147483648) (hi := 2147483656) hl0 rfl rfl rfl ci_b17_0 cj_b17_0 L_0
  exact e2_from hen ha hcall (e2_cutA_ok (e2_fa (fun al st E h hc => EN_0 al st E h hc) e2_fz)) (hC []) (X := e2x_224) ex2_224 0 ck_b17_e
/-! b18 X10_layWeights -/
def as_b18 : List ev_V := [(2, 83, 0)]
def E_b18 : e2_E := [(2147483648, 2147583648, 0, 0), (2147483648, 2147483656, 1, 0), (2147483648, 2147483688, 2, 0), (2147483648, 2147483688, 3, 0)]
def bc152 : ev_C := (52, [(0, 1, 0), (0, 0, 0), (11, 2147483648, 2147483649), (11, 2147483648, 2147483649)])
def bn394 : e2_Q1 := (bc152, bc3)
def bn395 : e2_Q2 := (bn18, bn394)
def bn396 : e2_Q3 := (bn17, bn395)
def bn397 : e2_Q4 := (bn396, bn370)
def bn398 : e2_Q5 := (bn14, bn397)
def bn399 : e2_Q6 := (bn398, bn288)
def bn400 : e2_Q4 := (bn292, bn346)
def bn401 : e2_Q5 := (bn400, bn123)
def bn402 : e2_Q6 := (bn378, bn401)
def bn403 : e2_Q7 := (bn399, bn402)
def bn404 : e2_Q6 := (bn388, bn301)
def bn405 : e2_Q7 := (bn404, bn313)
def bn406 : e2_Q8 := (bn403, bn405)
noncomputable def f_b18 : ev_H := (bn406 : e2_Q8)
noncomputable def q_b18_0 : ev_H := (bn406 : e2_Q8)
noncomputable def rs_b18 : e2_Rs := [((9, 0, 0), q_b18_0)]
noncomputable def s_b18 : e2_Sm := (224, as_b18, E_b18, f_b18, rs_b18)
noncomputable def S_b18 : List e2_Sm := [s_b3]
noncomputable def I_b18 : List e2_In := [(213, 2, e2x_213), (216, 1, e2x_216), (217, 1, e2x_217)]
set_option maxRecDepth 1000000 in
theorem co_b18 : e2_okSB E_b18.length as_b18 f_b18 rs_b18 = true := by decide +kernel
def al_b18_0 : List ev_V := [(2, 83, 0), (1, 4, 4294967296), (9, 0, 0), (9, 0, 0)]
def E_b18_0 : e2_E := [(2147483648, 2147583648, 0, 0), (2147483648, 2147483656, 1, 0), (2147483648, 2147483688, 2, 0), (2147483648, 2147483688, 3, 0), (2147483648, 2147483656, 4, 0)]
noncomputable def h_b18_0 : ev_H := (bn406 : e2_Q8)
def al_b18_1 : List ev_V := [(2, 83, 0), (1, 4, 4294967296), (11, 2147483648, 2147483655), (1, 5, 4294967296)]
def E_b18_1 : e2_E := [(2147483648, 2147583648, 0, 0), (2147483649, 2147483656, 1, 0), (2147483648, 2147483688, 2, 0), (2147483648, 2147483688, 3, 0), (2147483648, 2147483655, 4, 0), (2147483648, 2147483668, 5, 0)]
noncomputable def h_b18_1 : ev_H := (bn406 : e2_Q8)
noncomputable def cl_b18_e : List (Nat × e2_S) := [(12, e2_cutL (al_b18_0.set 1 (11, 2147483648, 2147483656)) 4 (E_b18_0.take 4) h_b18_0)]
set_option maxRecDepth 1000000 in
theorem ck_b18_e : e2_run (e2_cal S_b18 I_b18 4000 1) (e2_fin rs_b18) e2x_224 (e2_bpL cl_b18_e) (e2_cutA cl_b18_e) 4000 (e2_seek e2x_224 0) (e2_al 4 as_b18) [] E_b18 f_b18 = true := by decide +kernel
noncomputable def cl_b18_0 : List (Nat × e2_S) := [(60, e2_cutL (al_b18_1.set 3 (11, 2147483648, 2147483668)) 5 (E_b18_1.take 5) h_b18_1)]
set_option maxRecDepth 1000000 in
theorem ck_b18_0 : e2_runM (e2_cal S_b18 I_b18 4000 1) (e2_fin rs_b18) e2x_224 (e2_bpL cl_b18_0) (e2_cutA cl_b18_0) 4000 (e2_seek e2x_224 12) al_b18_0 [] E_b18_0 h_b18_0 = true := by decide +kernel
set_option maxRecDepth 1000000 in
theorem ci_b18_0 : e2_idl 4 (al_b18_0.set 1 (9, 0, 0)) = true := by decide +kernel
set_option maxRecDepth 1000000 in
theorem cj_b18_0 : e2_idh 4 8 h_b18_0 = true := by decide +kernel
noncomputable def cl_b18_1 : List (Nat × e2_S) := [(12, e2_cutL (al_b18_0.set 1 (13, 12, 2147483656)) 4 (E_b18_0.take 4) h_b18_0),
  (60, e2_cutL (al_b18_1.set 3 (13, 13, 2147483668)) 5 (E_b18_1.take 5) h_b18_1)]
set_option maxRecDepth 1000000 in
theorem ck_b18_1 : e2_runM (e2_cal S_b18 I_b18 4000 1) (e2_fin rs_b18) e2x_224 (e2_bpL cl_b18_1) (e2_cutA cl_b18_1) 4000 (e2_seek e2x_224 60) al_b18_1 [] E_b18_1 h_b18_1 = true := by decide +kernel
set_option maxRecDepth 1000000 in
theorem ci_b18_1 : e2_idl 5 (al_b18_1.set 3 (9, 0, 0)) = true := by decide +kernel
set_option maxRecDepth 1000000 in
theorem cj_b18_1 : e2_idh 5 8 h_b18_1 = true := by decide +kernel
theorem cs_b18 (hen : en_ok) (l : Launch) (hh : e2_hand_b l) : e2_smOk l 62 s_b18 := by
  refine e2_conG (H := 60) (n := 1) (C := evd_224) (S := S_b18) (I := I_b18) (fuel := 4000) hen ei_224 (e2_fa (hh _ hm_b3) e2_fz) (e2_fa ein_213 (e2_fa ein_216 (e2_fa ein_217 e2_fz))) (by decide) co_b18 fun M d _ hC hcall p e R s m args below meth c Q D cA A ads r0 ha hl0 => ?_
  have L_0 : e2_gdM M p l e R s m args below meth c Q D cA A ads r0 12 al_b18_0 [] E_b18_0 h_b18_0 := by
    refine e2_indL (u := 4) (j := 1) (lo := 2147483648) (hi := 2147483656) (b := 4) (dd := 0) hl0 (by decide) rfl rfl (Or.inr ⟨rfl, rfl⟩) rfl ci_b18_0 cj_b18_0 ?_
    intro r_0 k_0 hk_0 hp_0 hs_0 hn_0
    have hl_0 : r_0.length ≤ 5 := hs_0.len rfl
    have ha_0 := ha.ext hp_0
    have L_1 : e2_gdM M p l e R s m args below meth c Q D cA A ads r_0 60 al_b18_1 [] E_b18_1 h_b18_1 := by
      refine e2_indL (u := 5) (j := 3) (lo := 2147483648) (hi := 2147483668) (b := 5) (dd := 0) hl_0 (by decide) rfl rfl (Or.inr ⟨rfl, rfl⟩) rfl ci_b18_1 cj_b18_1 ?_
      intro r_1 k_1 hk_1 hp_1 hs_1 hn_1
      have hl_1 : r_1.length ≤ 6 := hs_1.len rfl
      have ha_1 := ha_0.ext hp_1
      exact e2_fromM hen ha_1 hcall (e2_cutA_ok (e2_fa (fun al st E h hc => (hn_0 al st E h hc).ext hp_1) (e2_fa (fun al st E h hc => hn_1 al st E h hc) e2_fz))) (hC []) (X := e2x_224) ex2_224 60 ck_b18_1
    have EN_1 := e2_entL (u := 5) (j := 3) (lo := 2147483648) (hi := 2147483668) hl_0 rfl rfl rfl ci_b18_1 cj_b18_1 L_1
    exact e2_fromM hen ha_0 hcall (e2_cutA_ok (e2_fa (fun al st E h hc => EN_1 al st E h hc) e2_fz)) (hC []) (X := e2x_224) ex2_224 12 ck_b18_0
  have EN_0 := e2_entL (u := 4) (j := 1) (lo := 2147483648) (hi := 2147483656) hl0 rfl rfl rfl ci_b18_0 cj_b18_0 L_0
  exact e2_from hen ha hcall (e2_cutA_ok (e2_fa (fun al st E h hc => EN_0 al st E h hc) e2_fz)) (hC []) (X := e2x_224) ex2_224 0 ck_b18_e
/-! b19 X10_layWeights -/
def as_b19 : List ev_V := [(2, 83, 0)]
def E_b19 : e2_E := [(2147483648, 2147583648, 0, 0), (2147483648, 2147483656, 1, 0), (2147483648, 2147483688, 2, 0), (2147483648, 2147483688, 3, 0)]
def bn407 : e2_Q7 := (bn404, bn317)
def bn408 : e2_Q8 := (bn403, bn407)
noncomputable def f_b19 : ev_H := (bn408 : e2_Q8)
noncomputable def q_b19_0 : ev_H := (bn408 : e2_Q8)
noncomputable def rs_b19 : e2_Rs := [((9, 0, 0), q_b19_0)]
noncomputable def s_b19 : e2_Sm := (224, as_b19, E_b19, f_b19, rs_b19)
noncomputable def S_b19 : List e2_Sm := [s_b4]
noncomputable def I_b19 : List e2_In := [(213, 2, e2x_213), (216, 1, e2x_216), (217, 1, e2x_217)]
set_option maxRecDepth 1000000 in
theorem co_b19 : e2_okSB E_b19.length as_b19 f_b19 rs_b19 = true := by decide +kernel
def al_b19_0 : List ev_V := [(2, 83, 0), (1, 4, 4294967296), (9, 0, 0), (9, 0, 0)]
def E_b19_0 : e2_E := [(2147483648, 2147583648, 0, 0), (2147483648, 2147483656, 1, 0), (2147483648, 2147483688, 2, 0), (2147483648, 2147483688, 3, 0), (2147483648, 2147483656, 4, 0)]
noncomputable def h_b19_0 : ev_H := (bn408 : e2_Q8)
def al_b19_1 : List ev_V := [(2, 83, 0), (1, 4, 4294967296), (11, 2147483648, 2147483655), (1, 5, 4294967296)]
def E_b19_1 : e2_E := [(2147483648, 2147583648, 0, 0), (2147483649, 2147483656, 1, 0), (2147483648, 2147483688, 2, 0), (2147483648, 2147483688, 3, 0), (2147483648, 2147483655, 4, 0), (2147483648, 2147483668, 5, 0)]
noncomputable def h_b19_1 : ev_H := (bn408 : e2_Q8)
noncomputable def cl_b19_e : List (Nat × e2_S) := [(12, e2_cutL (al_b19_0.set 1 (11, 2147483648, 2147483656)) 4 (E_b19_0.take 4) h_b19_0)]
set_option maxRecDepth 1000000 in
theorem ck_b19_e : e2_run (e2_cal S_b19 I_b19 4000 1) (e2_fin rs_b19) e2x_224 (e2_bpL cl_b19_e) (e2_cutA cl_b19_e) 4000 (e2_seek e2x_224 0) (e2_al 4 as_b19) [] E_b19 f_b19 = true := by decide +kernel
noncomputable def cl_b19_0 : List (Nat × e2_S) := [(60, e2_cutL (al_b19_1.set 3 (11, 2147483648, 2147483668)) 5 (E_b19_1.take 5) h_b19_1)]
set_option maxRecDepth 1000000 in
theorem ck_b19_0 : e2_runM (e2_cal S_b19 I_b19 4000 1) (e2_fin rs_b19) e2x_224 (e2_bpL cl_b19_0) (e2_cutA cl_b19_0) 4000 (e2_seek e2x_224 12) al_b19_0 [] E_b19_0 h_b19_0 = true := by decide +kernel
set_option maxRecDepth 1000000 in
theorem ci_b19_0 : e2_idl 4 (al_b19_0.set 1 (9, 0, 0)) = true := by decide +kernel
set_option maxRecDepth 1000000 in
theorem cj_b19_0 : e2_idh 4 8 h_b19_0 = true := by decide +kernel
noncomputable def cl_b19_1 : List (Nat × e2_S) := [(12, e2_cutL (al_b19_0.set 1 (13, 12, 2147483656)) 4 (E_b19_0.take 4) h_b19_0),
  (60, e2_cutL (al_b19_1.set 3 (13, 13, 2147483668)) 5 (E_b19_1.take 5) h_b19_1)]
set_option maxRecDepth 1000000 in
theorem ck_b19_1 : e2_runM (e2_cal S_b19 I_b19 4000 1) (e2_fin rs_b19) e2x_224 (e2_bpL cl_b19_1) (e2_cutA cl_b19_1) 4000 (e2_seek e2x_224 60) al_b19_1 [] E_b19_1 h_b19_1 = true := by decide +kernel
set_option maxRecDepth 1000000 in
theorem ci_b19_1 : e2_idl 5 (al_b19_1.set 3 (9, 0, 0)) = true := by decide +kernel
set_option maxRecDepth 1000000 in
theorem cj_b19_1 : e2_idh 5 8 h_b19_1 = true := by decide +kernel
theorem cs_b19 (hen : en_ok) (l : Launch) (hh : e2_hand_b l) : e2_smOk l 62 s_b19 := by
  refine e2_conG (H := 60) (n := 1) (C := evd_224) (S := S_b19) (I := I_b19) (fuel := 4000) hen ei_224 (e2_fa (hh _ hm_b4) e2_fz) (e2_fa ein_213 (e2_fa ein_216 (e2_fa ein_217 e2_fz))) (by decide) co_b19 fun M d _ hC hcall p e R s m args below meth c Q D cA A ads r0 ha hl0 => ?_
  have L_0 : e2_gdM M p l e R s m args below meth c Q D cA A ads r0 12 al_b19_0 [] E_b19_0 h_b19_0 := by
    refine e2_indL (u := 4) (j := 1) (lo := 2147483648) (hi := 2147483656) (b := 4) (dd := 0) hl0 (by decide) rfl rfl (Or.inr ⟨rfl, rfl⟩) rfl ci_b19_0 cj_b19_0 ?_
    intro r_0 k_0 hk_0 hp_0 hs_0 hn_0
    have hl_0 : r_0.length ≤ 5 := hs_0.len rfl
    have ha_0 := ha.ext hp_0
    have L_1 : e2_gdM M p l e R s m args below meth c Q D cA A ads r_0 60 al_b19_1 [] E_b19_1 h_b19_1 := by
      refine e2_indL (u := 5) (j := 3) (lo := 2147483648) (hi := 2147483668) (b := 5) (dd := 0) hl_0 (by decide) rfl rfl (Or.inr ⟨rfl, rfl⟩) rfl ci_b19_1 cj_b19_1 ?_
      intro r_1 k_1 hk_1 hp_1 hs_1 hn_1
      have hl_1 : r_1.length ≤ 6 := hs_1.len rfl
      have ha_1 := ha_0.ext hp_1
      exact e2_fromM hen ha_1 hcall (e2_cutA_ok (e2_fa (fun al st E h hc => (hn_0 al st E h hc).ext hp_1) (e2_fa (fun al st E h hc => hn_1 al st E h hc) e2_fz))) (hC []) (X := e2x_224) ex2_224 60 ck_b19_1
    have EN_1 := e2_entL (u := 5) (j := 3) (lo := 2147483648) (hi := 2147483668) hl_0 rfl rfl rfl ci_b19_1 cj_b19_1 L_1
    exact e2_fromM hen ha_0 hcall (e2_cutA_ok (e2_fa (fun al st E h hc => EN_1 al st E h hc) e2_fz)) (hC []) (X := e2x_224) ex2_224 12 ck_b19_0
  have EN_0 := e2_entL (u := 4) (j := 1) (lo := 2147483648) (hi := 2147483656) hl0 rfl rfl rfl ci_b19_0 cj_b19_0 L_0
  exact e2_from hen ha hcall (e2_cutA_ok (e2_fa (fun al st E h hc => EN_0 al st E h hc) e2_fz)) (hC []) (X := e2x_224) ex2_224 0 ck_b19_e
/-! b20 X10_layWeights -/
def as_b20 : List ev_V := [(2, 83, 0)]
def E_b20 : e2_E := [(2147483648, 2147583648, 0, 0), (2147483648, 2147483656, 1, 0), (2147483648, 2147483688, 2, 0), (2147483648, 2147483688, 3, 0)]
def bc153 : ev_C := (52, [(0, 0, 0), (0, 1, 0), (11, 2147483648, 2147483649), (11, 2147483648, 2147483649)])
def bn409 : e2_Q1 := (bc153, bc3)
def bn410 : e2_Q2 := (bn18, bn409)
def bn411 : e2_Q3 := (bn17, bn410)
def bn412 : e2_Q4 := (bn411, bn370)
def bn413 : e2_Q5 := (bn14, bn412)
def bn414 : e2_Q6 := (bn413, bn61)
def bn415 : e2_Q7 := (bn414, bn379)
def bn416 : e2_Q8 := (bn415, bn390)
noncomputable def f_b20 : ev_H := (bn416 : e2_Q8)
noncomputable def q_b20_0 : ev_H := (bn416 : e2_Q8)
noncomputable def rs_b20 : e2_Rs := [((9, 0, 0), q_b20_0)]
noncomputable def s_b20 : e2_Sm := (224, as_b20, E_b20, f_b20, rs_b20)
noncomputable def S_b20 : List e2_Sm := []
noncomputable def I_b20 : List e2_In := [(216, 1, e2x_216), (217, 1, e2x_217)]
set_option maxRecDepth 1000000 in
theorem co_b20 : e2_okSB E_b20.length as_b20 f_b20 rs_b20 = true := by decide +kernel
def al_b20_0 : List ev_V := [(2, 83, 0), (1, 4, 4294967296), (9, 0, 0), (9, 0, 0)]
def E_b20_0 : e2_E := [(2147483648, 2147583648, 0, 0), (2147483648, 2147483656, 1, 0), (2147483648, 2147483688, 2, 0), (2147483648, 2147483688, 3, 0), (2147483648, 2147483656, 4, 0)]
noncomputable def h_b20_0 : ev_H := (bn416 : e2_Q8)
def al_b20_1 : List ev_V := [(2, 83, 0), (1, 4, 4294967296), (11, 2147483648, 2147483655), (1, 5, 4294967296)]
def E_b20_1 : e2_E := [(2147483648, 2147583648, 0, 0), (2147483649, 2147483656, 1, 0), (2147483648, 2147483688, 2, 0), (2147483648, 2147483688, 3, 0), (2147483648, 2147483655, 4, 0), (2147483648, 2147483668, 5, 0)]
noncomputable def h_b20_1 : ev_H := (bn416 : e2_Q8)
noncomputable def cl_b20_e : List (Nat × e2_S) := [(12, e2_cutL (al_b20_0.set 1 (11, 2147483648, 2147483656)) 4 (E_b20_0.take 4) h_b20_0)]
set_option maxRecDepth 1000000 in
theorem ck_b20_e : e2_run (e2_cal S_b20 I_b20 4000 1) (e2_fin rs_b20) e2x_224 (e2_bpL cl_b20_e) (e2_cutA cl_b20_e) 4000 (e2_seek e2x_224 0) (e2_al 4 as_b20) [] E_b20 f_b20 = true := by decide +kernel
noncomputable def cl_b20_0 : List (Nat × e2_S) := [(60, e2_cutL (al_b20_1.set 3 (11, 2147483648, 2147483668)) 5 (E_b20_1.take 5) h_b20_1)]
set_option maxRecDepth 1000000 in
theorem ck_b20_0 : e2_runM (e2_cal S_b20 I_b20 4000 1) (e2_fin rs_b20) e2x_224 (e2_bpL cl_b20_0) (e2_cutA cl_b20_0) 4000 (e2_seek e2x_224 12) al_b20_0 [] E_b20_0 h_b20_0 = true := by decide +kernel
set_option maxRecDepth 1000000 in
theorem ci_b20_0 : e2_idl 4 (al_b20_0.set 1 (9, 0, 0)) = true := by decide +kernel
set_option maxRecDepth 1000000 in
theorem cj_b20_0 : e2_idh 4 8 h_b20_0 = true := by decide +kernel
noncomputable def cl_b20_1 : List (Nat × e2_S) := [(12, e2_cutL (al_b20_0.set 1 (13, 12, 2147483656)) 4 (E_b20_0.take 4) h_b20_0),
  (60, e2_cutL (al_b20_1.set 3 (13, 13, 2147483668)) 5 (E_b20_1.take 5) h_b20_1)]
set_option maxRecDepth 1000000 in
theorem ck_b20_1 : e2_runM (e2_cal S_b20 I_b20 4000 1) (e2_fin rs_b20) e2x_224 (e2_bpL cl_b20_1) (e2_cutA cl_b20_1) 4000 (e2_seek e2x_224 60) al_b20_1 [] E_b20_1 h_b20_1 = true := by decide +kernel
set_option maxRecDepth 1000000 in
theorem ci_b20_1 : e2_idl 5 (al_b20_1.set 3 (9, 0, 0)) = true := by decide +kernel
set_option maxRecDepth 1000000 in
theorem cj_b20_1 : e2_idh 5 8 h_b20_1 = true := by decide +kernel
theorem cs_b20 (hen : en_ok) (l : Launch) : e2_smOk l 2 s_b20 := by
  refine e2_conG (H := 0) (n := 1) (C := evd_224) (S := S_b20) (I := I_b20) (fuel := 4000) hen ei_224 e2_fz (e2_fa ein_216 (e2_fa ein_217 e2_fz)) (by decide) co_b20 fun M d _ hC hcall p e R s m args below meth c Q D cA A ads r0 ha hl0 => ?_
  have L_0 : e2_gdM M p l e R s m args below meth c Q D cA A ads r0 12 al_b20_0 [] E_b20_0 h_b20_0 := by
    refine e2_indL (u := 4) (j := 1) (lo := 2147483648) (hi := 2147483656) (b := 4) (dd := 0) hl0 (by decide) rfl rfl (Or.inr ⟨rfl, rfl⟩) rfl ci_b20_0 cj_b20_0 ?_
    intro r_0 k_0 hk_0 hp_0 hs_0 hn_0
    have hl_0 : r_0.length ≤ 5 := hs_0.len rfl
    have ha_0 := ha.ext hp_0
    have L_1 : e2_gdM M p l e R s m args below meth c Q D cA A ads r_0 60 al_b20_1 [] E_b20_1 h_b20_1 := by
      refine e2_indL (u := 5) (j := 3) (lo := 2147483648) (hi := 2147483668) (b := 5) (dd := 0) hl_0 (by decide) rfl rfl (Or.inr ⟨rfl, rfl⟩) rfl ci_b20_1 cj_b20_1 ?_
      intro r_1 k_1 hk_1 hp_1 hs_1 hn_1
      have hl_1 : r_1.length ≤ 6 := hs_1.len rfl
      have ha_1 := ha_0.ext hp_1
      exact e2_fromM hen ha_1 hcall (e2_cutA_ok (e2_fa (fun al st E h hc => (hn_0 al st E h hc).ext hp_1) (e2_fa (fun al st E h hc => hn_1 al st E h hc) e2_fz))) (hC []) (X := e2x_224) ex2_224 60 ck_b20_1
    have EN_1 := e2_entL (u := 5) (j := 3) (lo := 2147483648) (hi := 2147483668) hl_0 rfl rfl rfl ci_b20_1 cj_b20_1 L_1
    exact e2_fromM hen ha_0 hcall (e2_cutA_ok (e2_fa (fun al st E h hc => EN_1 al st E h hc) e2_fz)) (hC []) (X := e2x_224) ex2_224 12 ck_b20_0
  have EN_0 := e2_entL (u := 4) (j := 1) (lo := 2147483648) (hi := 2147483656) hl0 rfl rfl rfl ci_b20_0 cj_b20_0 L_0
  exact e2_from hen ha hcall (e2_cutA_ok (e2_fa (fun al st E h hc => EN_0 al st E h hc) e2_fz)) (hC []) (X := e2x_224) ex2_224 0 ck_b20_e
/-! b21 X10_layWeights -/
def as_b21 : List ev_V := [(2, 83, 0)]
def E_b21 : e2_E := [(2147483648, 2147583648, 0, 0), (2147483648, 2147483656, 1, 0), (2147483648, 2147483688, 2, 0), (2147483648, 2147483688, 3, 0)]
def bn417 : e2_Q8 := (bn415, bn392)
noncomputable def f_b21 : ev_H := (bn417 : e2_Q8)
noncomputable def q_b21_0 : ev_H := (bn417 : e2_Q8)
noncomputable def rs_b21 : e2_Rs := [((9, 0, 0), q_b21_0)]
noncomputable def s_b21 : e2_Sm := (224, as_b21, E_b21, f_b21, rs_b21)
noncomputable def S_b21 : List e2_Sm := []
noncomputable def I_b21 : List e2_In := [(216, 1, e2x_216), (217, 1, e2x_217)]
set_option maxRecDepth 1000000 in
theorem co_b21 : e2_okSB E_b21.length as_b21 f_b21 rs_b21 = true := by decide +kernel
def al_b21_0 : List ev_V := [(2, 83, 0), (1, 4, 4294967296), (9, 0, 0), (9, 0, 0)]
def E_b21_0 : e2_E := [(2147483648, 2147583648, 0, 0), (2147483648, 2147483656, 1, 0), (2147483648, 2147483688, 2, 0), (2147483648, 2147483688, 3, 0), (2147483648, 2147483656, 4, 0)]
noncomputable def h_b21_0 : ev_H := (bn417 : e2_Q8)
def al_b21_1 : List ev_V := [(2, 83, 0), (1, 4, 4294967296), (11, 2147483648, 2147483655), (1, 5, 4294967296)]
def E_b21_1 : e2_E := [(2147483648, 2147583648, 0, 0), (2147483649, 2147483656, 1, 0), (2147483648, 2147483688, 2, 0), (2147483648, 2147483688, 3, 0), (2147483648, 2147483655, 4, 0), (2147483648, 2147483668, 5, 0)]
noncomputable def h_b21_1 : ev_H := (bn417 : e2_Q8)
noncomputable def cl_b21_e : List (Nat × e2_S) := [(12, e2_cutL (al_b21_0.set 1 (11, 2147483648, 2147483656)) 4 (E_b21_0.take 4) h_b21_0)]
set_option maxRecDepth 1000000 in
theorem ck_b21_e : e2_run (e2_cal S_b21 I_b21 4000 1) (e2_fin rs_b21) e2x_224 (e2_bpL cl_b21_e) (e2_cutA cl_b21_e) 4000 (e2_seek e2x_224 0) (e2_al 4 as_b21) [] E_b21 f_b21 = true := by decide +kernel
noncomputable def cl_b21_0 : List (Nat × e2_S) := [(60, e2_cutL (al_b21_1.set 3 (11, 2147483648, 2147483668)) 5 (E_b21_1.take 5) h_b21_1)]
set_option maxRecDepth 1000000 in
theorem ck_b21_0 : e2_runM (e2_cal S_b21 I_b21 4000 1) (e2_fin rs_b21) e2x_224 (e2_bpL cl_b21_0) (e2_cutA cl_b21_0) 4000 (e2_seek e2x_224 12) al_b21_0 [] E_b21_0 h_b21_0 = true := by decide +kernel
set_option maxRecDepth 1000000 in
theorem ci_b21_0 : e2_idl 4 (al_b21_0.set 1 (9, 0, 0)) = true := by decide +kernel
set_option maxRecDepth 1000000 in
theorem cj_b21_0 : e2_idh 4 8 h_b21_0 = true := by decide +kernel
noncomputable def cl_b21_1 : List (Nat × e2_S) := [(12, e2_cutL (al_b21_0.set 1 (13, 12, 2147483656)) 4 (E_b21_0.take 4) h_b21_0),
  (60, e2_cutL (al_b21_1.set 3 (13, 13, 2147483668)) 5 (E_b21_1.take 5) h_b21_1)]
set_option maxRecDepth 1000000 in
theorem ck_b21_1 : e2_runM (e2_cal S_b21 I_b21 4000 1) (e2_fin rs_b21) e2x_224 (e2_bpL cl_b21_1) (e2_cutA cl_b21_1) 4000 (e2_seek e2x_224 60) al_b21_1 [] E_b21_1 h_b21_1 = true := by decide +kernel
set_option maxRecDepth 1000000 in
theorem ci_b21_1 : e2_idl 5 (al_b21_1.set 3 (9, 0, 0)) = true := by decide +kernel
set_option maxRecDepth 1000000 in
theorem cj_b21_1 : e2_idh 5 8 h_b21_1 = true := by decide +kernel
theorem cs_b21 (hen : en_ok) (l : Launch) : e2_smOk l 2 s_b21 := by
  refine e2_conG (H := 0) (n := 1) (C := evd_224) (S := S_b21) (I := I_b21) (fuel := 4000) hen ei_224 e2_fz (e2_fa ein_216 (e2_fa ein_217 e2_fz)) (by decide) co_b21 fun M d _ hC hcall p e R s m args below meth c Q D cA A ads r0 ha hl0 => ?_
  have L_0 : e2_gdM M p l e R s m args below meth c Q D cA A ads r0 12 al_b21_0 [] E_b21_0 h_b21_0 := by
    refine e2_indL (u := 4) (j := 1) (lo := 2147483648) (hi := 2147483656) (b := 4) (dd := 0) hl0 (by decide) rfl rfl (Or.inr ⟨rfl, rfl⟩) rfl ci_b21_0 cj_b21_0 ?_
    intro r_0 k_0 hk_0 hp_0 hs_0 hn_0
    have hl_0 : r_0.length ≤ 5 := hs_0.len rfl
    have ha_0 := ha.ext hp_0
    have L_1 : e2_gdM M p l e R s m args below meth c Q D cA A ads r_0 60 al_b21_1 [] E_b21_1 h_b21_1 := by
      refine e2_indL (u := 5) (j := 3) (lo := 2147483648) (hi := 2147483668) (b := 5) (dd := 0) hl_0 (by decide) rfl rfl (Or.inr ⟨rfl, rfl⟩) rfl ci_b21_1 cj_b21_1 ?_
      intro r_1 k_1 hk_1 hp_1 hs_1 hn_1
      have hl_1 : r_1.length ≤ 6 := hs_1.len rfl
      have ha_1 := ha_0.ext hp_1
      exact e2_fromM hen ha_1 hcall (e2_cutA_ok (e2_fa (fun al st E h hc => (hn_0 al st E h hc).ext hp_1) (e2_fa (fun al st E h hc => hn_1 al st E h hc) e2_fz))) (hC []) (X := e2x_224) ex2_224 60 ck_b21_1
    have EN_1 := e2_entL (u := 5) (j := 3) (lo := 2147483648) (hi := 2147483668) hl_0 rfl rfl rfl ci_b21_1 cj_b21_1 L_1
    exact e2_fromM hen ha_0 hcall (e2_cutA_ok (e2_fa (fun al st E h hc => EN_1 al st E h hc) e2_fz)) (hC []) (X := e2x_224) ex2_224 12 ck_b21_0
  have EN_0 := e2_entL (u := 4) (j := 1) (lo := 2147483648) (hi := 2147483656) hl0 rfl rfl rfl ci_b21_0 cj_b21_0 L_0
  exact e2_from hen ha hcall (e2_cutA_ok (e2_fa (fun al st E h hc => EN_0 al st E h hc) e2_fz)) (hC []) (X := e2x_224) ex2_224 0 ck_b21_e
/-! b22 X10_layWeights -/
def as_b22 : List ev_V := [(2, 83, 0)]
def E_b22 : e2_E := [(2147483648, 2147583648, 0, 0), (2147483648, 2147483656, 1, 0), (2147483648, 2147483688, 2, 0), (2147483648, 2147483688, 3, 0)]
def bc154 : ev_C := (52, [(0, 1, 0), (0, 1, 0), (11, 2147483648, 2147483649), (11, 2147483648, 2147483649)])
def bn418 : e2_Q1 := (bc154, bc3)
def bn419 : e2_Q2 := (bn18, bn418)
def bn420 : e2_Q3 := (bn17, bn419)
def bn421 : e2_Q4 := (bn420, bn370)
def bn422 : e2_Q5 := (bn14, bn421)
def bn423 : e2_Q6 := (bn422, bn288)
def bn424 : e2_Q7 := (bn423, bn402)
def bn425 : e2_Q7 := (bn404, bn337)
def bn426 : e2_Q8 := (bn424, bn425)
noncomputable def f_b22 : ev_H := (bn426 : e2_Q8)
noncomputable def q_b22_0 : ev_H := (bn426 : e2_Q8)
noncomputable def rs_b22 : e2_Rs := [((9, 0, 0), q_b22_0)]
noncomputable def s_b22 : e2_Sm := (224, as_b22, E_b22, f_b22, rs_b22)
noncomputable def S_b22 : List e2_Sm := [s_b7]
noncomputable def I_b22 : List e2_In := [(213, 2, e2x_213), (216, 1, e2x_216), (217, 1, e2x_217)]
set_option maxRecDepth 1000000 in
theorem co_b22 : e2_okSB E_b22.length as_b22 f_b22 rs_b22 = true := by decide +kernel
def al_b22_0 : List ev_V := [(2, 83, 0), (1, 4, 4294967296), (9, 0, 0), (9, 0, 0)]
def E_b22_0 : e2_E := [(2147483648, 2147583648, 0, 0), (2147483648, 2147483656, 1, 0), (2147483648, 2147483688, 2, 0), (2147483648, 2147483688, 3, 0), (2147483648, 2147483656, 4, 0)]
noncomputable def h_b22_0 : ev_H := (bn426 : e2_Q8)
def al_b22_1 : List ev_V := [(2, 83, 0), (1, 4, 4294967296), (11, 2147483648, 2147483655), (1, 5, 4294967296)]
def E_b22_1 : e2_E := [(2147483648, 2147583648, 0, 0), (2147483649, 2147483656, 1, 0), (2147483648, 2147483688, 2, 0), (2147483648, 2147483688, 3, 0), (2147483648, 2147483655, 4, 0), (2147483648, 2147483668, 5, 0)]
noncomputable def h_b22_1 : ev_H := (bn426 : e2_Q8)
noncomputable def cl_b22_e : List (Nat × e2_S) := [(12, e2_cutL (al_b22_0.set 1 (11, 2147483648, 2147483656)) 4 (E_b22_0.take 4) h_b22_0)]
set_option maxRecDepth 1000000 in
theorem ck_b22_e : e2_run (e2_cal S_b22 I_b22 4000 1) (e2_fin rs_b22) e2x_224 (e2_bpL cl_b22_e) (e2_cutA cl_b22_e) 4000 (e2_seek e2x_224 0) (e2_al 4 as_b22) [] E_b22 f_b22 = true := by decide +kernel
noncomputable def cl_b22_0 : List (Nat × e2_S) := [(60, e2_cutL (al_b22_1.set 3 (11, 2147483648, 2147483668)) 5 (E_b22_1.take 5) h_b22_1)]
set_option maxRecDepth 1000000 in
theorem ck_b22_0 : e2_runM (e2_cal S_b22 I_b22 4000 1) (e2_fin rs_b22) e2x_224 (e2_bpL cl_b22_0) (e2_cutA cl_b22_0) 4000 (e2_seek e2x_224 12) al_b22_0 [] E_b22_0 h_b22_0 = true := by decide +kernel
set_option maxRecDepth 1000000 in
theorem ci_b22_0 : e2_idl 4 (al_b22_0.set 1 (9, 0, 0)) = true := by decide +kernel
set_option maxRecDepth 1000000 in
theorem cj_b22_0 : e2_idh 4 8 h_b22_0 = true := by decide +kernel
noncomputable def cl_b22_1 : List (Nat × e2_S) := [(12, e2_cutL (al_b22_0.set 1 (13, 12, 2147483656)) 4 (E_b22_0.take 4) h_b22_0),
  (60, e2_cutL (al_b22_1.set 3 (13, 13, 2147483668)) 5 (E_b22_1.take 5) h_b22_1)]
set_option maxRecDepth 1000000 in
theorem ck_b22_1 : e2_runM (e2_cal S_b22 I_b22 4000 1) (e2_fin rs_b22) e2x_224 (e2_bpL cl_b22_1) (e2_cutA cl_b22_1) 4000 (e2_seek e2x_224 60) al_b22_1 [] E_b22_1 h_b22_1 = true := by decide +kernel
set_option maxRecDepth 1000000 in
theorem ci_b22_1 : e2_idl 5 (al_b22_1.set 3 (9, 0, 0)) = true := by decide +kernel
set_option maxRecDepth 1000000 in
theorem cj_b22_1 : e2_idh 5 8 h_b22_1 = true := by decide +kernel
theorem cs_b22 (hen : en_ok) (l : Launch) (hh : e2_hand_b l) : e2_smOk l 62 s_b22 := by
  refine e2_conG (H := 60) (n := 1) (C := evd_224) (S := S_b22) (I := I_b22) (fuel := 4000) hen ei_224 (e2_fa (hh _ hm_b7) e2_fz) (e2_fa ein_213 (e2_fa ein_216 (e2_fa ein_217 e2_fz))) (by decide) co_b22 fun M d _ hC hcall p e R s m args below meth c Q D cA A ads r0 ha hl0 => ?_
  have L_0 : e2_gdM M p l e R s m args below meth c Q D cA A ads r0 12 al_b22_0 [] E_b22_0 h_b22_0 := by
    refine e2_indL (u := 4) (j := 1) (lo := 2147483648) (hi := 2147483656) (b := 4) (dd := 0) hl0 (by decide) rfl rfl (Or.inr ⟨rfl, rfl⟩) rfl ci_b22_0 cj_b22_0 ?_
    intro r_0 k_0 hk_0 hp_0 hs_0 hn_0
    have hl_0 : r_0.length ≤ 5 := hs_0.len rfl
    have ha_0 := ha.ext hp_0
    have L_1 : e2_gdM M p l e R s m args below meth c Q D cA A ads r_0 60 al_b22_1 [] E_b22_1 h_b22_1 := by
      refine e2_indL (u := 5) (j := 3) (lo := 2147483648) (hi := 2147483668) (b := 5) (dd := 0) hl_0 (by decide) rfl rfl (Or.inr ⟨rfl, rfl⟩) rfl ci_b22_1 cj_b22_1 ?_
      intro r_1 k_1 hk_1 hp_1 hs_1 hn_1
      have hl_1 : r_1.length ≤ 6 := hs_1.len rfl
      have ha_1 := ha_0.ext hp_1
      exact e2_fromM hen ha_1 hcall (e2_cutA_ok (e2_fa (fun al st E h hc => (hn_0 al st E h hc).ext hp_1) (e2_fa (fun al st E h hc => hn_1 al st E h hc) e2_fz))) (hC []) (X := e2x_224) ex2_224 60 ck_b22_1
    have EN_1 := e2_entL (u := 5) (j := 3) (lo := 2147483648) (hi := 2147483668) hl_0 rfl rfl rfl ci_b22_1 cj_b22_1 L_1
    exact e2_fromM hen ha_0 hcall (e2_cutA_ok (e2_fa (fun al st E h hc => EN_1 al st E h hc) e2_fz)) (hC []) (X := e2x_224) ex2_224 12 ck_b22_0
  have EN_0 := e2_entL (u := 4) (j := 1) (lo := 2147483648) (hi := 2147483656) hl0 rfl rfl rfl ci_b22_0 cj_b22_0 L_0
  exact e2_from hen ha hcall (e2_cutA_ok (e2_fa (fun al st E h hc => EN_0 al st E h hc) e2_fz)) (hC []) (X := e2x_224) ex2_224 0 ck_b22_e
/-! b23 X10_layWeights -/
def as_b23 : List ev_V := [(2, 83, 0)]
def E_b23 : e2_E := [(2147483648, 2147583648, 0, 0), (2147483648, 2147483656, 1, 0), (2147483648, 2147483688, 2, 0), (2147483648, 2147483688, 3, 0)]
def bn427 : e2_Q7 := (bn404, bn341)
def bn428 : e2_Q8 := (bn424, bn427)
noncomputable def f_b23 : ev_H := (bn428 : e2_Q8)
noncomputable def q_b23_0 : ev_H := (bn428 : e2_Q8)
noncomputable def rs_b23 : e2_Rs := [((9, 0, 0), q_b23_0)]
noncomputable def s_b23 : e2_Sm := (224, as_b23, E_b23, f_b23, rs_b23)
noncomputable def S_b23 : List e2_Sm := [s_b8]
noncomputable def I_b23 : List e2_In := [(213, 2, e2x_213), (216, 1, e2x_216), (217, 1, e2x_217)]
set_option maxRecDepth 1000000 in
theorem co_b23 : e2_okSB E_b23.length as_b23 f_b23 rs_b23 = true := by decide +kernel
def al_b23_0 : List ev_V := [(2, 83, 0), (1, 4, 4294967296), (9, 0, 0), (9, 0, 0)]
def E_b23_0 : e2_E := [(2147483648, 2147583648, 0, 0), (2147483648, 2147483656, 1, 0), (2147483648, 2147483688, 2, 0), (2147483648, 2147483688, 3, 0), (2147483648, 2147483656, 4, 0)]
noncomputable def h_b23_0 : ev_H := (bn428 : e2_Q8)
def al_b23_1 : List ev_V := [(2, 83, 0), (1, 4, 4294967296), (11, 2147483648, 2147483655), (1, 5, 4294967296)]
def E_b23_1 : e2_E := [(2147483648, 2147583648, 0, 0), (2147483649, 2147483656, 1, 0), (2147483648, 2147483688, 2, 0), (2147483648, 2147483688, 3, 0), (2147483648, 2147483655, 4, 0), (2147483648, 2147483668, 5, 0)]
noncomputable def h_b23_1 : ev_H := (bn428 : e2_Q8)
noncomputable def cl_b23_e : List (Nat × e2_S) := [(12, e2_cutL (al_b23_0.set 1 (11, 2147483648, 2147483656)) 4 (E_b23_0.take 4) h_b23_0)]
set_option maxRecDepth 1000000 in
theorem ck_b23_e : e2_run (e2_cal S_b23 I_b23 4000 1) (e2_fin rs_b23) e2x_224 (e2_bpL cl_b23_e) (e2_cutA cl_b23_e) 4000 (e2_seek e2x_224 0) (e2_al 4 as_b23) [] E_b23 f_b23 = true := by decide +kernel
noncomputable def cl_b23_0 : List (Nat × e2_S) := [(60, e2_cutL (al_b23_1.set 3 (11, 2147483648, 2147483668)) 5 (E_b23_1.take 5) h_b23_1)]
set_option maxRecDepth 1000000 in
theorem ck_b23_0 : e2_runM (e2_cal S_b23 I_b23 4000 1) (e2_fin rs_b23) e2x_224 (e2_bpL cl_b23_0) (e2_cutA cl_b23_0) 4000 (e2_seek e2x_224 12) al_b23_0 [] E_b23_0 h_b23_0 = true := by decide +kernel
set_option maxRecDepth 1000000 in
theorem ci_b23_0 : e2_idl 4 (al_b23_0.set 1 (9, 0, 0)) = true := by decide +kernel
set_option maxRecDepth 1000000 in
theorem cj_b23_0 : e2_idh 4 8 h_b23_0 = true := by decide +kernel
noncomputable def cl_b23_1 : List (Nat × e2_S) := [(12, e2_cutL (al_b23_0.set 1 (13, 12, 2147483656)) 4 (E_b23_0.take 4) h_b23_0),
  (60, e2_cutL (al_b23_1.set 3 (13, 13, 2147483668)) 5 (E_b23_1.take 5) h_b23_1)]
set_option maxRecDepth 1000000 in
theorem ck_b23_1 : e2_runM (e2_cal S_b23 I_b23 4000 1) (e2_fin rs_b23) e2x_224 (e2_bpL cl_b23_1) (e2_cutA cl_b23_1) 4000 (e2_seek e2x_224 60) al_b23_1 [] E_b23_1 h_b23_1 = true := by decide +kernel
set_option maxRecDepth 1000000 in
theorem ci_b23_1 : e2_idl 5 (al_b23_1.set 3 (9, 0, 0)) = true := by decide +kernel
set_option maxRecDepth 1000000 in
theorem cj_b23_1 : e2_idh 5 8 h_b23_1 = true := by decide +kernel
theorem cs_b23 (hen : en_ok) (l : Launch) (hh : e2_hand_b l) : e2_smOk l 62 s_b23 := by
  refine e2_conG (H := 60) (n := 1) (C := evd_224) (S := S_b23) (I := I_b23) (fuel := 4000) hen ei_224 (e2_fa (hh _ hm_b8) e2_fz) (e2_fa ein_213 (e2_fa ein_216 (e2_fa ein_217 e2_fz))) (by decide) co_b23 fun M d _ hC hcall p e R s m args below meth c Q D cA A ads r0 ha hl0 => ?_
  have L_0 : e2_gdM M p l e R s m args below meth c Q D cA A ads r0 12 al_b23_0 [] E_b23_0 h_b23_0 := by
    refine e2_indL (u := 4) (j := 1) (lo := 2147483648) (hi := 2147483656) (b := 4) (dd := 0) hl0 (by decide) rfl rfl (Or.inr ⟨rfl, rfl⟩) rfl ci_b23_0 cj_b23_0 ?_
    intro r_0 k_0 hk_0 hp_0 hs_0 hn_0
    have hl_0 : r_0.length ≤ 5 := hs_0.len rfl
    have ha_0 := ha.ext hp_0
    have L_1 : e2_gdM M p l e R s m args below meth c Q D cA A ads r_0 60 al_b23_1 [] E_b23_1 h_b23_1 := by
      refine e2_indL (u := 5) (j := 3) (lo := 2147483648) (hi := 2147483668) (b := 5) (dd := 0) hl_0 (by decide) rfl rfl (Or.inr ⟨rfl, rfl⟩) rfl ci_b23_1 cj_b23_1 ?_
      intro r_1 k_1 hk_1 hp_1 hs_1 hn_1
      have hl_1 : r_1.length ≤ 6 := hs_1.len rfl
      have ha_1 := ha_0.ext hp_1
      exact e2_fromM hen ha_1 hcall (e2_cutA_ok (e2_fa (fun al st E h hc => (hn_0 al st E h hc).ext hp_1) (e2_fa (fun al st E h hc => hn_1 al st E h hc) e2_fz))) (hC []) (X := e2x_224) ex2_224 60 ck_b23_1
    have EN_1 := e2_entL (u := 5) (j := 3) (lo := 2147483648) (hi := 2147483668) hl_0 rfl rfl rfl ci_b23_1 cj_b23_1 L_1
    exact e2_fromM hen ha_0 hcall (e2_cutA_ok (e2_fa (fun al st E h hc => EN_1 al st E h hc) e2_fz)) (hC []) (X := e2x_224) ex2_224 12 ck_b23_0
  have EN_0 := e2_entL (u := 4) (j := 1) (lo := 2147483648) (hi := 2147483656) hl0 rfl rfl rfl ci_b23_0 cj_b23_0 L_0
  exact e2_from hen ha hcall (e2_cutA_ok (e2_fa (fun al st E h hc => EN_0 al st E h hc) e2_fz)) (hC []) (X := e2x_224) ex2_224 0 ck_b23_e
/-! b24 X10_layFrom -/
def as_b24 : List ev_V := [(2, 83, 0), (0, 19, 0), (11, 2147483648, 2147483656), (11, 0, 4294967295)]
def E_b24 : e2_E := [(2147483648, 2147583648, 0, 0), (2147483648, 2147483656, 1, 0), (2147483648, 2147483688, 2, 0), (2147483648, 2147483688, 3, 0)]
def bc155 : ev_C := (50, [(11, 0, 4294967295), (11, 0, 4294967295), (11, 0, 4294967295), (11, 0, 4294967295), (11, 0, 4294967295), (11, 0, 4294967295), (11, 0, 4294967295), (11, 0, 4294967295), (11, 0, 4294967295), (11, 0, 4294967295), (11, 0, 4294967295), (11, 0, 4294967295), (11, 0, 4294967295), (11, 0, 4294967295), (11, 0, 4294967295), (11, 0, 4294967295)])
def bn429 : e2_Q1 := (bc155, bc3)
def bn430 : e2_Q2 := (bn3, bn429)
def bn431 : e2_Q3 := (bn2, bn430)
def bn432 : e2_Q4 := (bn431, bn265)
def bn433 : e2_Q4 := (bn21, bn370)
def bn434 : e2_Q5 := (bn432, bn433)
def bn435 : e2_Q2 := (bn34, bn429)
def bn436 : e2_Q3 := (bn33, bn435)
def bn437 : e2_Q4 := (bn436, bn44)
def bn438 : e2_Q5 := (bn437, bn60)
def bn439 : e2_Q6 := (bn434, bn438)
def bc156 : ev_C := (54, [(0, 189, 0), (11, 0, 4294967295)])
def bn440 : e2_Q1 := (bc156, bc3)
def bn441 : e2_Q2 := (bn73, bn440)
def bn442 : e2_Q3 := (bn72, bn441)
def bn443 : e2_Q4 := (bn69, bn442)
def bn444 : e2_Q5 := (bn443, bn92)
def bn445 : e2_Q6 := (bn444, bn348)
def bn446 : e2_Q7 := (bn439, bn445)
def bn447 : e2_Q2 := (bn200, bn440)
def bn448 : e2_Q3 := (bn199, bn447)
def bn449 : e2_Q4 := (bn196, bn448)
def bn450 : e2_Q5 := (bn449, bn219)
def bn451 : e2_Q6 := (bn450, bn251)
def bn452 : e2_Q7 := (bn389, bn451)
def bn453 : e2_Q8 := (bn446, bn452)
noncomputable def f_b24 : ev_H := (bn453 : e2_Q8)
noncomputable def q_b24_0 : ev_H := (bn453 : e2_Q8)
noncomputable def rs_b24 : e2_Rs := [((9, 0, 0), q_b24_0)]
noncomputable def s_b24 : e2_Sm := (229, as_b24, E_b24, f_b24, rs_b24)
noncomputable def S_b24 : List e2_Sm := []
noncomputable def I_b24 : List e2_In := [(215, 2, e2x_215), (216, 1, e2x_216), (217, 1, e2x_217), (225, 5, e2x_225), (226, 3, e2x_226), (227, 2, e2x_227), (228, 3, e2x_228)]
set_option maxRecDepth 1000000 in
theorem co_b24 : e2_okSB E_b24.length as_b24 f_b24 rs_b24 = true := by decide +kernel
def al_b24_0 : List ev_V := [(2, 83, 0), (0, 19, 0), (11, 2147483648, 2147483656), (11, 0, 4294967295), (11, 2147483819, 2147483827), (1, 4, 4294967296), (9, 0, 0), (9, 0, 0)]
def E_b24_0 : e2_E := [(2147483648, 2147583648, 0, 0), (2147483648, 2147483656, 1, 0), (2147483648, 2147483688, 2, 0), (2147483648, 2147483688, 3, 0), (2147483648, 2147483656, 4, 0)]
noncomputable def h_b24_0 : ev_H := (bn453 : e2_Q8)
noncomputable def cl_b24_e : List (Nat × e2_S) := [(28, e2_cutL (al_b24_0.set 5 (11, 2147483648, 2147483656)) 4 (E_b24_0.take 4) h_b24_0)]
set_option maxRecDepth 1000000 in
theorem ck_b24_e : e2_run (e2_cal S_b24 I_b24 4000 2) (e2_fin rs_b24) e2x_229 (e2_bpL cl_b24_e) (e2_cutA cl_b24_e) 4000 (e2_seek e2x_229 0) (e2_al 8 as_b24) [] E_b24 f_b24 = true := by decide +kernel
noncomputable def cl_b24_0 : List (Nat × e2_S) := [(28, e2_cutL (al_b24_0.set 5 (13, 12, 2147483656)) 4 (E_b24_0.take 4) h_b24_0)]
set_option maxRecDepth 1000000 in
theorem ck_b24_0 : e2_runM (e2_cal S_b24 I_b24 4000 2) (e2_fin rs_b24) e2x_229 (e2_bpL cl_b24_0) (e2_cutA cl_b24_0) 4000 (e2_seek e2x_229 28) al_b24_0 [] E_b24_0 h_b24_0 = true := by decide +kernel
set_option maxRecDepth 1000000 in
theorem ci_b24_0 : e2_idl 4 (al_b24_0.set 5 (9, 0, 0)) = true := by decide +kernel
set_option maxRecDepth 1000000 in
theorem cj_b24_0 : e2_idh 4 8 h_b24_0 = true := by decide +kernel
theorem cs_b24 (hen : en_ok) (l : Launch) : e2_smOk l 3 s_b24 := by
  refine e2_conG (H := 0) (n := 2) (C := evd_229) (S := S_b24) (I := I_b24) (fuel := 4000) hen ei_229 e2_fz (e2_fa ein_215 (e2_fa ein_216 (e2_fa ein_217 (e2_fa ein_225 (e2_fa ein_226 (e2_fa ein_227 (e2_fa ein_228 e2_fz))))))) (by decide) co_b24 fun M d _ hC hcall p e R s m args below meth c Q D cA A ads r0 ha hl0 => ?_
  have L_0 : e2_gdM M p l e R s m args below meth c Q D cA A ads r0 28 al_b24_0 [] E_b24_0 h_b24_0 := by
    refine e2_indL (u := 4) (j := 5) (lo := 2147483648) (hi := 2147483656) (b := 4) (dd := 0) hl0 (by decide) rfl rfl (Or.inr ⟨rfl, rfl⟩) rfl ci_b24_0 cj_b24_0 ?_
    intro r_0 k_0 hk_0 hp_0 hs_0 hn_0
    have hl_0 : r_0.length ≤ 5 := hs_0.len rfl
    have ha_0 := ha.ext hp_0
    exact e2_fromM hen ha_0 hcall (e2_cutA_ok (e2_fa (fun al st E h hc => hn_0 al st E h hc) e2_fz)) (hC [28]) (X := e2x_229) ex2_229 28 ck_b24_0
  have EN_0 := e2_entL (u := 4) (j := 5) (lo := 2147483648) (hi := 2147483656) hl0 rfl rfl rfl ci_b24_0 cj_b24_0 L_0
  exact e2_from hen ha hcall (e2_cutA_ok (e2_fa (fun al st E h hc => EN_0 al st E h hc) e2_fz)) (hC [28]) (X := e2x_229) ex2_229 0 ck_b24_e
/-! b25 X10_layFrom -/
def as_b25 : List ev_V := [(2, 83, 0), (0, 18, 0), (11, 2147483648, 2147483656), (11, 0, 4294967295)]
def E_b25 : e2_E := [(2147483648, 2147583648, 0, 0), (2147483648, 2147483656, 1, 0), (2147483648, 2147483688, 2, 0), (2147483648, 2147483688, 3, 0)]
noncomputable def f_b25 : ev_H := (bn453 : e2_Q8)
noncomputable def q_b25_0 : ev_H := (bn453 : e2_Q8)
noncomputable def rs_b25 : e2_Rs := [((9, 0, 0), q_b25_0)]
noncomputable def s_b25 : e2_Sm := (229, as_b25, E_b25, f_b25, rs_b25)
noncomputable def S_b25 : List e2_Sm := []
noncomputable def I_b25 : List e2_In := [(215, 2, e2x_215), (216, 1, e2x_216), (217, 1, e2x_217), (225, 5, e2x_225), (226, 3, e2x_226), (227, 2, e2x_227), (228, 3, e2x_228)]
set_option maxRecDepth 1000000 in
theorem co_b25 : e2_okSB E_b25.length as_b25 f_b25 rs_b25 = true := by decide +kernel
def al_b25_0 : List ev_V := [(2, 83, 0), (0, 18, 0), (11, 2147483648, 2147483656), (11, 0, 4294967295), (11, 2147483810, 2147483818), (1, 4, 4294967296), (9, 0, 0), (9, 0, 0)]
def E_b25_0 : e2_E := [(2147483648, 2147583648, 0, 0), (2147483648, 2147483656, 1, 0), (2147483648, 2147483688, 2, 0), (2147483648, 2147483688, 3, 0), (2147483648, 2147483656, 4, 0)]
noncomputable def h_b25_0 : ev_H := (bn453 : e2_Q8)
noncomputable def cl_b25_e : List (Nat × e2_S) := [(28, e2_cutL (al_b25_0.set 5 (11, 2147483648, 2147483656)) 4 (E_b25_0.take 4) h_b25_0)]
set_option maxRecDepth 1000000 in
theorem ck_b25_e : e2_run (e2_cal S_b25 I_b25 4000 2) (e2_fin rs_b25) e2x_229 (e2_bpL cl_b25_e) (e2_cutA cl_b25_e) 4000 (e2_seek e2x_229 0) (e2_al 8 as_b25) [] E_b25 f_b25 = true := by decide +kernel
noncomputable def cl_b25_0 : List (Nat × e2_S) := [(28, e2_cutL (al_b25_0.set 5 (13, 12, 2147483656)) 4 (E_b25_0.take 4) h_b25_0)]
set_option maxRecDepth 1000000 in
theorem ck_b25_0 : e2_runM (e2_cal S_b25 I_b25 4000 2) (e2_fin rs_b25) e2x_229 (e2_bpL cl_b25_0) (e2_cutA cl_b25_0) 4000 (e2_seek e2x_229 28) al_b25_0 [] E_b25_0 h_b25_0 = true := by decide +kernel
set_option maxRecDepth 1000000 in
theorem ci_b25_0 : e2_idl 4 (al_b25_0.set 5 (9, 0, 0)) = true := by decide +kernel
set_option maxRecDepth 1000000 in
theorem cj_b25_0 : e2_idh 4 8 h_b25_0 = true := by decide +kernel
theorem cs_b25 (hen : en_ok) (l : Launch) : e2_smOk l 3 s_b25 := by
  refine e2_conG (H := 0) (n := 2) (C := evd_229) (S := S_b25) (I := I_b25) (fuel := 4000) hen ei_229 e2_fz (e2_fa ein_215 (e2_fa ein_216 (e2_fa ein_217 (e2_fa ein_225 (e2_fa ein_226 (e2_fa ein_227 (e2_fa ein_228 e2_fz))))))) (by decide) co_b25 fun M d _ hC hcall p e R s m args below meth c Q D cA A ads r0 ha hl0 => ?_
  have L_0 : e2_gdM M p l e R s m args below meth c Q D cA A ads r0 28 al_b25_0 [] E_b25_0 h_b25_0 := by
    refine e2_indL (u := 4) (j := 5) (lo := 2147483648) (hi := 2147483656) (b := 4) (dd := 0) hl0 (by decide) rfl rfl (Or.inr ⟨rfl, rfl⟩) rfl ci_b25_0 cj_b25_0 ?_
    intro r_0 k_0 hk_0 hp_0 hs_0 hn_0
    have hl_0 : r_0.length ≤ 5 := hs_0.len rfl
    have ha_0 := ha.ext hp_0
    exact e2_fromM hen ha_0 hcall (e2_cutA_ok (e2_fa (fun al st E h hc => hn_0 al st E h hc) e2_fz)) (hC [28]) (X := e2x_229) ex2_229 28 ck_b25_0
  have EN_0 := e2_entL (u := 4) (j := 5) (lo := 2147483648) (hi := 2147483656) hl0 rfl rfl rfl ci_b25_0 cj_b25_0 L_0
  exact e2_from hen ha hcall (e2_cutA_ok (e2_fa (fun al st E h hc => EN_0 al st E h hc) e2_fz)) (hC [28]) (X := e2x_229) ex2_229 0 ck_b25_e
