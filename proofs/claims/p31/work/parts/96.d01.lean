/-! CONTRACTS d, printed by a program -/
/-! d11 X10_mown -/
def as_d11 : List ev_V := [(2, 83, 0)]
def E_d11 : e2_E := [(2147483648, 2147583648, 0, 0), (2147483648, 2147483656, 1, 0), (2147483648, 2147483688, 2, 0), (2147483648, 2147483688, 3, 0)]
def dc145 : ev_C := (50, [(11, 2147483652, 2147483668), (11, 2147483652, 2147483668)])
def dn344 : e2_Q1 := (dc145, dc3)
def dn345 : e2_Q2 := (dn101, dn344)
def dn346 : e2_Q3 := (dn345, dn270)
def dn347 : e2_Q4 := (dn100, dn346)
def dn348 : e2_Q5 := (dn347, dn123)
def dn349 : e2_Q6 := (dn93, dn348)
def dn350 : e2_Q7 := (dn62, dn349)
def dn351 : e2_Q8 := (dn350, dn253)
noncomputable def f_d11 : ev_H := (dn351 : e2_Q8)
noncomputable def q_d11_0 : ev_H := (dn351 : e2_Q8)
noncomputable def rs_d11 : e2_Rs := [((11, 0, 4294967295), q_d11_0)]
noncomputable def s_d11 : e2_Sm := (221, as_d11, E_d11, f_d11, rs_d11)
noncomputable def S_d11 : List e2_Sm := []
noncomputable def I_d11 : List e2_In := [(216, 1, e2x_216)]
set_option maxRecDepth 1000000 in
theorem co_d11 : e2_okSB E_d11.length as_d11 f_d11 rs_d11 = true := by decide +kernel
def al_d11_0 : List ev_V := [(2, 83, 0), (11, 0, 4294967295), (1, 4, 4294967296)]
def E_d11_0 : e2_E := [(2147483648, 2147583648, 0, 0), (2147483648, 2147483656, 1, 0), (2147483648, 2147483688, 2, 0), (2147483648, 2147483688, 3, 0), (2147483648, 2147483668, 4, 0)]
noncomputable def h_d11_0 : ev_H := (dn351 : e2_Q8)
noncomputable def cl_d11_e : List (Nat × e2_S) := [(4, e2_cutL (al_d11_0.set 2 (11, 2147483648, 2147483668)) 4 (E_d11_0.take 4) h_d11_0)]
set_option maxRecDepth 1000000 in
theorem ck_d11_e : e2_run (e2_cal S_d11 I_d11 4000 1) (e2_fin rs_d11) e2x_221 (e2_bpL cl_d11_e) (e2_cutA cl_d11_e) 4000 (e2_seek e2x_221 0) (e2_al 3 as_d11) [] E_d11 f_d11 = true := by decide +kernel
noncomputable def cl_d11_0 : List (Nat × e2_S) := [(4, e2_cutL (al_d11_0.set 2 (13, 12, 2147483668)) 4 (E_d11_0.take 4) h_d11_0)]
set_option maxRecDepth 1000000 in
theorem ck_d11_0 : e2_runM (e2_cal S_d11 I_d11 4000 1) (e2_fin rs_d11) e2x_221 (e2_bpL cl_d11_0) (e2_cutA cl_d11_0) 4000 (e2_seek e2x_221 4) al_d11_0 [] E_d11_0 h_d11_0 = true := by decide +kernel
set_option maxRecDepth 1000000 in
theorem ci_d11_0 : e2_idl 4 (al_d11_0.set 2 (9, 0, 0)) = true := by decide +kernel
set_option maxRecDepth 1000000 in
theorem cj_d11_0 : e2_idh 4 8 h_d11_0 = true := by decide +kernel
theorem cs_d11 (hen : en_ok) (l : Launch) : e2_smOk l 2 s_d11 := by
  refine e2_conG (H := 0) (n := 1) (C := evd_221) (S := S_d11) (I := I_d11) (fuel := 4000) hen ei_221 e2_fz (e2_fa ein_216 e2_fz) (by decide) co_d11 fun M d _ hC hcall p e R s m args below meth c Q D cA A ads r0 ha hl0 => ?_
  have L_0 : e2_gdM M p l e R s m args below meth c Q D cA A ads r0 4 al_d11_0 [] E_d11_0 h_d11_0 := by
    refine e2_indL (u := 4) (j := 2) (lo := 2147483648) (hi := 2147483668) (b := 4) (dd := 0) hl0 (by decide) rfl rfl (Or.inr ⟨rfl, rfl⟩) rfl ci_d11_0 cj_d11_0 ?_
    intro r_0 k_0 hk_0 hp_0 hs_0 hn_0
    have hl_0 : r_0.length ≤ 5 := hs_0.len rfl
    have ha_0 := ha.ext hp_0
    exact e2_fromM hen ha_0 hcall (e2_cutA_ok (e2_fa (fun al st E h hc => hn_0 al st E h hc) e2_fz)) (hC []) (X := e2x_221) ex2_221 4 ck_d11_0
  have EN_0 := e2_entL (u := 4) (j := 2) (lo := 2147483648) (hi := 2147483668) hl0 rfl rfl rfl ci_d11_0 cj_d11_0 L_0
  exact e2_from hen ha hcall (e2_cutA_ok (e2_fa (fun al st E h hc => EN_0 al st E h hc) e2_fz)) (hC []) (X := e2x_221) ex2_221 0 ck_d11_e
/-! d12 X10_mown -/
def as_d12 : List ev_V := [(2, 83, 0)]
def E_d12 : e2_E := [(2147483648, 2147583648, 0, 0), (2147483648, 2147483656, 1, 0), (2147483648, 2147483688, 2, 0), (2147483648, 2147483688, 3, 0)]
def dn352 : e2_Q8 := (dn350, dn261)
noncomputable def f_d12 : ev_H := (dn352 : e2_Q8)
noncomputable def q_d12_0 : ev_H := (dn352 : e2_Q8)
noncomputable def rs_d12 : e2_Rs := [((11, 0, 4294967295), q_d12_0)]
noncomputable def s_d12 : e2_Sm := (221, as_d12, E_d12, f_d12, rs_d12)
noncomputable def S_d12 : List e2_Sm := []
noncomputable def I_d12 : List e2_In := [(216, 1, e2x_216)]
set_option maxRecDepth 1000000 in
theorem co_d12 : e2_okSB E_d12.length as_d12 f_d12 rs_d12 = true := by decide +kernel
def al_d12_0 : List ev_V := [(2, 83, 0), (11, 0, 4294967295), (1, 4, 4294967296)]
def E_d12_0 : e2_E := [(2147483648, 2147583648, 0, 0), (2147483648, 2147483656, 1, 0), (2147483648, 2147483688, 2, 0), (2147483648, 2147483688, 3, 0), (2147483648, 2147483668, 4, 0)]
noncomputable def h_d12_0 : ev_H := (dn352 : e2_Q8)
noncomputable def cl_d12_e : List (Nat × e2_S) := [(4, e2_cutL (al_d12_0.set 2 (11, 2147483648, 2147483668)) 4 (E_d12_0.take 4) h_d12_0)]
set_option maxRecDepth 1000000 in
theorem ck_d12_e : e2_run (e2_cal S_d12 I_d12 4000 1) (e2_fin rs_d12) e2x_221 (e2_bpL cl_d12_e) (e2_cutA cl_d12_e) 4000 (e2_seek e2x_221 0) (e2_al 3 as_d12) [] E_d12 f_d12 = true := by decide +kernel
noncomputable def cl_d12_0 : List (Nat × e2_S) := [(4, e2_cutL (al_d12_0.set 2 (13, 12, 2147483668)) 4 (E_d12_0.take 4) h_d12_0)]
set_option maxRecDepth 1000000 in
theorem ck_d12_0 : e2_runM (e2_cal S_d12 I_d12 4000 1) (e2_fin rs_d12) e2x_221 (e2_bpL cl_d12_0) (e2_cutA cl_d12_0) 4000 (e2_seek e2x_221 4) al_d12_0 [] E_d12_0 h_d12_0 = true := by decide +kernel
set_option maxRecDepth 1000000 in
theorem ci_d12_0 : e2_idl 4 (al_d12_0.set 2 (9, 0, 0)) = true := by decide +kernel
set_option maxRecDepth 1000000 in
theorem cj_d12_0 : e2_idh 4 8 h_d12_0 = true := by decide +kernel
theorem cs_d12 (hen : en_ok) (l : Launch) : e2_smOk l 2 s_d12 := by
  refine e2_conG (H := 0) (n := 1) (C := evd_221) (S := S_d12) (I := I_d12) (fuel := 4000) hen ei_221 e2_fz (e2_fa ein_216 e2_fz) (by decide) co_d12 fun M d _ hC hcall p e R s m args below meth c Q D cA A ads r0 ha hl0 => ?_
  have L_0 : e2_gdM M p l e R s m args below meth c Q D cA A ads r0 4 al_d12_0 [] E_d12_0 h_d12_0 := by
    refine e2_indL (u := 4) (j := 2) (lo := 2147483648) (hi := 2147483668) (b := 4) (dd := 0) hl0 (by decide) rfl rfl (Or.inr ⟨rfl, rfl⟩) rfl ci_d12_0 cj_d12_0 ?_
    intro r_0 k_0 hk_0 hp_0 hs_0 hn_0
    have hl_0 : r_0.length ≤ 5 := hs_0.len rfl
    have ha_0 := ha.ext hp_0
    exact e2_fromM hen ha_0 hcall (e2_cutA_ok (e2_fa (fun al st E h hc => hn_0 al st E h hc) e2_fz)) (hC []) (X := e2x_221) ex2_221 4 ck_d12_0
  have EN_0 := e2_entL (u := 4) (j := 2) (lo := 2147483648) (hi := 2147483668) hl0 rfl rfl rfl ci_d12_0 cj_d12_0 L_0
  exact e2_from hen ha hcall (e2_cutA_ok (e2_fa (fun al st E h hc => EN_0 al st E h hc) e2_fz)) (hC []) (X := e2x_221) ex2_221 0 ck_d12_e
/-! d13 X10_looks -/
def as_d13 : List ev_V := [(2, 83, 0)]
def E_d13 : e2_E := [(2147483648, 2147583648, 0, 0), (2147483648, 2147483656, 1, 0), (2147483648, 2147483688, 2, 0), (2147483648, 2147483688, 3, 0)]
def dc146 : ev_C := (50, [(11, 0, 4294967295), (11, 0, 4294967295)])
def dn353 : e2_Q1 := (dc146, dc3)
def dn354 : e2_Q2 := (dn212, dn353)
def dn355 : e2_Q3 := (dn354, dn217)
def dn356 : e2_Q4 := (dn211, dn355)
def dn357 : e2_Q5 := (dn204, dn356)
def dn358 : e2_Q6 := (dn357, dn251)
def dn359 : e2_Q7 := (dn189, dn358)
def dn360 : e2_Q8 := (dn350, dn359)
noncomputable def f_d13 : ev_H := (dn360 : e2_Q8)
noncomputable def q_d13_0 : ev_H := (dn360 : e2_Q8)
noncomputable def rs_d13 : e2_Rs := [((11, 0, 4294967295), q_d13_0)]
noncomputable def s_d13 : e2_Sm := (222, as_d13, E_d13, f_d13, rs_d13)
noncomputable def S_d13 : List e2_Sm := [s_d11]
noncomputable def I_d13 : List e2_In := []
set_option maxRecDepth 1000000 in
theorem ck_d13 : e2_run (e2_cal S_d13 I_d13 4000 0) (e2_fin rs_d13) e2x_222 (fun _ => false) (fun _ _ _ _ _ => false) 4000 (e2_seek e2x_222 0) (e2_al 1 as_d13) [] E_d13 f_d13 = true := by decide +kernel
set_option maxRecDepth 1000000 in
theorem co_d13 : e2_okSB E_d13.length as_d13 f_d13 rs_d13 = true := by decide +kernel
theorem cs_d13 (hen : en_ok) (l : Launch) : e2_smOk l 3 s_d13 := e2_con0 (H := 2) (n := 0) (C := evd_222) (S := S_d13) (I := I_d13) (fuel := 4000) [] hen ei_222 (e2_fa (cs_d11 hen l) e2_fz) e2_fz (by decide) co_d13 ex2_222 ck_d13
/-! d14 X10_looks -/
def as_d14 : List ev_V := [(2, 83, 0)]
def E_d14 : e2_E := [(2147483648, 2147583648, 0, 0), (2147483648, 2147483656, 1, 0), (2147483648, 2147483688, 2, 0), (2147483648, 2147483688, 3, 0)]
def dn361 : e2_Q5 := (dn258, dn356)
def dn362 : e2_Q6 := (dn361, dn251)
def dn363 : e2_Q7 := (dn189, dn362)
def dn364 : e2_Q8 := (dn350, dn363)
noncomputable def f_d14 : ev_H := (dn364 : e2_Q8)
noncomputable def q_d14_0 : ev_H := (dn364 : e2_Q8)
noncomputable def rs_d14 : e2_Rs := [((11, 0, 4294967295), q_d14_0)]
noncomputable def s_d14 : e2_Sm := (222, as_d14, E_d14, f_d14, rs_d14)
noncomputable def S_d14 : List e2_Sm := [s_d12]
noncomputable def I_d14 : List e2_In := []
set_option maxRecDepth 1000000 in
theorem ck_d14 : e2_run (e2_cal S_d14 I_d14 4000 0) (e2_fin rs_d14) e2x_222 (fun _ => false) (fun _ _ _ _ _ => false) 4000 (e2_seek e2x_222 0) (e2_al 1 as_d14) [] E_d14 f_d14 = true := by decide +kernel
set_option maxRecDepth 1000000 in
theorem co_d14 : e2_okSB E_d14.length as_d14 f_d14 rs_d14 = true := by decide +kernel
theorem cs_d14 (hen : en_ok) (l : Launch) : e2_smOk l 3 s_d14 := e2_con0 (H := 2) (n := 0) (C := evd_222) (S := S_d14) (I := I_d14) (fuel := 4000) [] hen ei_222 (e2_fa (cs_d12 hen l) e2_fz) e2_fz (by decide) co_d14 ex2_222 ck_d14
/-! d15 X10_openCells -/
def as_d15 : List ev_V := [(2, 83, 0)]
def E_d15 : e2_E := [(2147483648, 2147583648, 0, 0), (2147483648, 2147483656, 1, 0), (2147483648, 2147483688, 2, 0), (2147483648, 2147483688, 3, 0)]
noncomputable def f_d15 : ev_H := (dn360 : e2_Q8)
noncomputable def q_d15_0 : ev_H := (dn360 : e2_Q8)
noncomputable def rs_d15 : e2_Rs := [((11, 0, 4294967295), q_d15_0)]
noncomputable def s_d15 : e2_Sm := (223, as_d15, E_d15, f_d15, rs_d15)
noncomputable def S_d15 : List e2_Sm := [s_d13]
noncomputable def I_d15 : List e2_In := [(216, 1, e2x_216)]
set_option maxRecDepth 1000000 in
theorem ck_d15 : e2_run (e2_cal S_d15 I_d15 4000 1) (e2_fin rs_d15) e2x_223 (fun _ => false) (fun _ _ _ _ _ => false) 4000 (e2_seek e2x_223 0) (e2_al 1 as_d15) [] E_d15 f_d15 = true := by decide +kernel
set_option maxRecDepth 1000000 in
theorem co_d15 : e2_okSB E_d15.length as_d15 f_d15 rs_d15 = true := by decide +kernel
theorem cs_d15 (hen : en_ok) (l : Launch) : e2_smOk l 5 s_d15 := e2_con0 (H := 3) (n := 1) (C := evd_223) (S := S_d15) (I := I_d15) (fuel := 4000) [] hen ei_223 (e2_fa (cs_d13 hen l) e2_fz) (e2_fa ein_216 e2_fz) (by decide) co_d15 ex2_223 ck_d15
/-! d16 X10_layWeights -/
def as_d16 : List ev_V := [(2, 83, 0)]
def E_d16 : e2_E := [(2147483648, 2147583648, 0, 0), (2147483648, 2147483656, 1, 0), (2147483648, 2147483688, 2, 0), (2147483648, 2147483688, 3, 0)]
def dc147 : ev_C := (52, [(11, 2147483648, 2147483649), (11, 2147483648, 2147483649), (0, 0, 0), (0, 0, 0)])
def dn365 : e2_Q1 := (dc147, dc3)
def dn366 : e2_Q2 := (dn18, dn365)
def dn367 : e2_Q3 := (dn17, dn366)
def dc148 : ev_C := (50, [(11, 2147483648, 2147483656), (1, 1, 4294967296)])
def dn368 : e2_Q1 := (dc148, dc3)
def dn369 : e2_Q2 := (dn22, dn368)
def dn370 : e2_Q3 := (dn369, dn27)
def dn371 : e2_Q4 := (dn367, dn370)
def dn372 : e2_Q5 := (dn14, dn371)
def dn373 : e2_Q6 := (dn372, dn61)
def dc149 : ev_C := (50, [(11, 2147483648, 2147483651), (11, 2147483648, 2147483651), (11, 2147483648, 2147483651), (11, 2147483648, 2147483651), (11, 2147483648, 2147483651), (11, 2147483648, 2147483651), (11, 2147483648, 2147483651), (11, 2147483648, 2147483651), (11, 2147483648, 2147483651), (11, 2147483648, 2147483651), (11, 2147483648, 2147483651), (11, 2147483648, 2147483651), (11, 2147483648, 2147483651), (11, 2147483648, 2147483651), (11, 2147483648, 2147483651), (11, 2147483648, 2147483651)])
def dn374 : e2_Q1 := (dc149, dc3)
def dn375 : e2_Q2 := (dn66, dn374)
def dn376 : e2_Q3 := (dn65, dn375)
def dn377 : e2_Q4 := (dn376, dn76)
def dn378 : e2_Q5 := (dn377, dn92)
def dn379 : e2_Q6 := (dn378, dn348)
def dn380 : e2_Q7 := (dn373, dn379)
def dc150 : ev_C := (50, [(11, 2147483648, 2147483654), (11, 2147483648, 2147483654), (11, 2147483648, 2147483654), (11, 2147483648, 2147483654), (11, 2147483648, 2147483654), (11, 2147483648, 2147483654), (11, 2147483648, 2147483654), (11, 2147483648, 2147483654), (15, 1, 2147483654), (15, 9, 2147483654), (15, 17, 2147483654), (15, 25, 2147483654), (15, 33, 2147483654), (15, 41, 2147483654), (15, 49, 2147483654), (15, 57, 2147483654)])
def dn381 : e2_Q1 := (dc150, dc3)
def dn382 : e2_Q2 := (dn130, dn381)
def dn383 : e2_Q3 := (dn129, dn382)
def dc151 : ev_C := (54, [(0, 160, 0), (11, 0, 4294967295)])
def dn384 : e2_Q1 := (dc151, dc3)
def dn385 : e2_Q2 := (dn137, dn384)
def dn386 : e2_Q3 := (dn136, dn385)
def dn387 : e2_Q4 := (dn383, dn386)
def dn388 : e2_Q5 := (dn387, dn156)
def dn389 : e2_Q6 := (dn388, dn188)
def dn390 : e2_Q7 := (dn389, dn252)
def dn391 : e2_Q8 := (dn380, dn390)
noncomputable def f_d16 : ev_H := (dn391 : e2_Q8)
noncomputable def q_d16_0 : ev_H := (dn391 : e2_Q8)
noncomputable def rs_d16 : e2_Rs := [((9, 0, 0), q_d16_0)]
noncomputable def s_d16 : e2_Sm := (224, as_d16, E_d16, f_d16, rs_d16)
noncomputable def S_d16 : List e2_Sm := []
noncomputable def I_d16 : List e2_In := [(216, 1, e2x_216), (217, 1, e2x_217)]
set_option maxRecDepth 1000000 in
theorem co_d16 : e2_okSB E_d16.length as_d16 f_d16 rs_d16 = true := by decide +kernel
def al_d16_0 : List ev_V := [(2, 83, 0), (1, 4, 4294967296), (9, 0, 0), (9, 0, 0)]
def E_d16_0 : e2_E := [(2147483648, 2147583648, 0, 0), (2147483648, 2147483656, 1, 0), (2147483648, 2147483688, 2, 0), (2147483648, 2147483688, 3, 0), (2147483648, 2147483656, 4, 0)]
noncomputable def h_d16_0 : ev_H := (dn391 : e2_Q8)
def al_d16_1 : List ev_V := [(2, 83, 0), (1, 4, 4294967296), (11, 2147483656, 2147483663), (1, 5, 4294967296)]
def E_d16_1 : e2_E := [(2147483648, 2147583648, 0, 0), (2147483649, 2147483656, 1, 0), (2147483648, 2147483688, 2, 0), (2147483648, 2147483688, 3, 0), (2147483648, 2147483655, 4, 0), (2147483648, 2147483668, 5, 0)]
noncomputable def h_d16_1 : ev_H := (dn391 : e2_Q8)
noncomputable def cl_d16_e : List (Nat × e2_S) := [(12, e2_cutL (al_d16_0.set 1 (11, 2147483648, 2147483656)) 4 (E_d16_0.take 4) h_d16_0)]
set_option maxRecDepth 1000000 in
theorem ck_d16_e : e2_run (e2_cal S_d16 I_d16 4000 1) (e2_fin rs_d16) e2x_224 (e2_bpL cl_d16_e) (e2_cutA cl_d16_e) 4000 (e2_seek e2x_224 0) (e2_al 4 as_d16) [] E_d16 f_d16 = true := by decide +kernel
noncomputable def cl_d16_0 : List (Nat × e2_S) := [(60, e2_cutL (al_d16_1.set 3 (11, 2147483648, 2147483668)) 5 (E_d16_1.take 5) h_d16_1)]
set_option maxRecDepth 1000000 in
theorem ck_d16_0 : e2_runM (e2_cal S_d16 I_d16 4000 1) (e2_fin rs_d16) e2x_224 (e2_bpL cl_d16_0) (e2_cutA cl_d16_0) 4000 (e2_seek e2x_224 12) al_d16_0 [] E_d16_0 h_d16_0 = true := by decide +kernel
set_option maxRecDepth 1000000 in
theorem ci_d16_0 : e2_idl 4 (al_d16_0.set 1 (9, 0, 0)) = true := by decide +kernel
set_option maxRecDepth 1000000 in
theorem cj_d16_0 : e2_idh 4 8 h_d16_0 = true := by decide +kernel
noncomputable def cl_d16_1 : List (Nat × e2_S) := [(12, e2_cutL (al_d16_0.set 1 (13, 12, 2147483656)) 4 (E_d16_0.take 4) h_d16_0),
  (60, e2_cutL (al_d16_1.set 3 (13, 13, 2147483668)) 5 (E_d16_1.take 5) h_d16_1)]
set_option maxRecDepth 1000000 in
theorem ck_d16_1 : e2_runM (e2_cal S_d16 I_d16 4000 1) (e2_fin rs_d16) e2x_224 (e2_bpL cl_d16_1) (e2_cutA cl_d16_1) 4000 (e2_seek e2x_224 60) al_d16_1 [] E_d16_1 h_d16_1 = true := by decide +kernel
set_option maxRecDepth 1000000 in
theorem ci_d16_1 : e2_idl 5 (al_d16_1.set 3 (9, 0, 0)) = true := by decide +kernel
set_option maxRecDepth 1000000 in
theorem cj_d16_1 : e2_idh 5 8 h_d16_1 = true := by decide +kernel
theorem cs_d16 (hen : en_ok) (l : Launch) : e2_smOk l 2 s_d16 := by
  refine e2_conG (H := 0) (n := 1) (C := evd_224) (S := S_d16) (I := I_d16) (fuel := 4000) hen ei_224 e2_fz (e2_fa ein_216 (e2_fa ein_217 e2_fz)) (by decide) co_d16 fun M d _ hC hcall p e R s m args below meth c Q D cA A ads r0 ha hl0 => ?_
  have L_0 : e2_gdM M p l e R s m args below meth c Q D cA A ads r0 12 al_d16_0 [] E_d16_0 h_d16_0 := by
    refine e2_indL (u := 4) (j := 1) (lo := 2147483648) (hi := 2147483656) (b := 4) (dd := 0) hl0 (by decide) rfl rfl (Or.inr ⟨rfl, rfl⟩) rfl ci_d16_0 cj_d16_0 ?_
    intro r_0 k_0 hk_0 hp_0 hs_0 hn_0
    have hl_0 : r_0.length ≤ 5 := hs_0.len rfl
    have ha_0 := ha.ext hp_0
    have L_1 : e2_gdM M p l e R s m args below meth c Q D cA A ads r_0 60 al_d16_1 [] E_d16_1 h_d16_1 := by
      refine e2_indL (u := 5) (j := 3) (lo := 2147483648) (hi := 2147483668) (b := 5) (dd := 0) hl_0 (by decide) rfl rfl (Or.inr ⟨rfl, rfl⟩) rfl ci_d16_1 cj_d16_1 ?_
      intro r_1 k_1 hk_1 hp_1 hs_1 hn_1
      have hl_1 : r_1.length ≤ 6 := hs_1.len rfl
      have ha_1 := ha_0.ext hp_1
      exact e2_fromM hen ha_1 hcall (e2_cutA_ok (e2_fa (fun al st E h hc => (hn_0 al st E h hc).ext hp_1) (e2_fa (fun al st E h hc => hn_1 al st E h hc) e2_fz))) (hC []) (X := e2x_224) ex2_224 60 ck_d16_1
    have EN_1 := e2_entL (u := 5) (j := 3) (lo := 2147483648) (hi := 2147483668) hl_0 rfl rfl rfl ci_d16_1 cj_d16_1 L_1
    exact e2_fromM hen ha_0 hcall (e2_cutA_ok (e2_fa (fun al st E h hc => EN_1 al st E h hc) e2_fz)) (hC []) (X := e2x_224) ex2_224 12 ck_d16_0
  have EN_0 := e2_entL (u := 4) (j := 1) (lo := 2147483648) (hi := 2147483656) hl0 rfl rfl rfl ci_d16_0 cj_d16_0 L_0
  exact e2_from hen ha hcall (e2_cutA_ok (e2_fa (fun al st E h hc => EN_0 al st E h hc) e2_fz)) (hC []) (X := e2x_224) ex2_224 0 ck_d16_e
/-! d17 X10_layWeights -/
def as_d17 : List ev_V := [(2, 83, 0)]
def E_d17 : e2_E := [(2147483648, 2147583648, 0, 0), (2147483648, 2147483656, 1, 0), (2147483648, 2147483688, 2, 0), (2147483648, 2147483688, 3, 0)]
def dn392 : e2_Q7 := (dn389, dn260)
def dn393 : e2_Q8 := (dn380, dn392)
noncomputable def f_d17 : ev_H := (dn393 : e2_Q8)
noncomputable def q_d17_0 : ev_H := (dn393 : e2_Q8)
noncomputable def rs_d17 : e2_Rs := [((9, 0, 0), q_d17_0)]
noncomputable def s_d17 : e2_Sm := (224, as_d17, E_d17, f_d17, rs_d17)
noncomputable def S_d17 : List e2_Sm := []
noncomputable def I_d17 : List e2_In := [(216, 1, e2x_216), (217, 1, e2x_217)]
set_option maxRecDepth 1000000 in
theorem co_d17 : e2_okSB E_d17.length as_d17 f_d17 rs_d17 = true := by decide +kernel
def al_d17_0 : List ev_V := [(2, 83, 0), (1, 4, 4294967296), (9, 0, 0), (9, 0, 0)]
def E_d17_0 : e2_E := [(2147483648, 2147583648, 0, 0), (2147483648, 2147483656, 1, 0), (2147483648, 2147483688, 2, 0), (2147483648, 2147483688, 3, 0), (2147483648, 2147483656, 4, 0)]
noncomputable def h_d17_0 : ev_H := (dn393 : e2_Q8)
def al_d17_1 : List ev_V := [(2, 83, 0), (1, 4, 4294967296), (11, 2147483656, 2147483663), (1, 5, 4294967296)]
def E_d17_1 : e2_E := [(2147483648, 2147583648, 0, 0), (2147483649, 2147483656, 1, 0), (2147483648, 2147483688, 2, 0), (2147483648, 2147483688, 3, 0), (2147483648, 2147483655, 4, 0), (2147483648, 2147483668, 5, 0)]
noncomputable def h_d17_1 : ev_H := (dn393 : e2_Q8)
noncomputable def cl_d17_e : List (Nat × e2_S) := [(12, e2_cutL (al_d17_0.set 1 (11, 2147483648, 2147483656)) 4 (E_d17_0.take 4) h_d17_0)]
set_option maxRecDepth 1000000 in
theorem ck_d17_e : e2_run (e2_cal S_d17 I_d17 4000 1) (e2_fin rs_d17) e2x_224 (e2_bpL cl_d17_e) (e2_cutA cl_d17_e) 4000 (e2_seek e2x_224 0) (e2_al 4 as_d17) [] E_d17 f_d17 = true := by decide +kernel
noncomputable def cl_d17_0 : List (Nat × e2_S) := [(60, e2_cutL (al_d17_1.set 3 (11, 2147483648, 2147483668)) 5 (E_d17_1.take 5) h_d17_1)]
set_option maxRecDepth 1000000 in
theorem ck_d17_0 : e2_runM (e2_cal S_d17 I_d17 4000 1) (e2_fin rs_d17) e2x_224 (e2_bpL cl_d17_0) (e2_cutA cl_d17_0) 4000 (e2_seek e2x_224 12) al_d17_0 [] E_d17_0 h_d17_0 = true := by decide +kernel
set_option maxRecDepth 1000000 in
theorem ci_d17_0 : e2_idl 4 (al_d17_0.set 1 (9, 0, 0)) = true := by decide +kernel
set_option maxRecDepth 1000000 in
theorem cj_d17_0 : e2_idh 4 8 h_d17_0 = true := by decide +kernel
noncomputable def cl_d17_1 : List (Nat × e2_S) := [(12, e2_cutL (al_d17_0.set 1 (13, 12, 2147483656)) 4 (E_d17_0.take 4) h_d17_0),
  (60, e2_cutL (al_d17_1.set 3 (13, 13, 2147483668)) 5 (E_d17_1.take 5) h_d17_1)]
set_option maxRecDepth 1000000 in
theorem ck_d17_1 : e2_runM (e2_cal S_d17 I_d17 4000 1) (e2_fin rs_d17) e2x_224 (e2_bpL cl_d17_1) (e2_cutA cl_d17_1) 4000 (e2_seek e2x_224 60) al_d17_1 [] E_d17_1 h_d17_1 = true := by decide +kernel
set_option maxRecDepth 1000000 in
theorem ci_d17_1 : e2_idl 5 (al_d17_1.set 3 (9, 0, 0)) = true := by decide +kernel
set_option maxRecDepth 1000000 in
theorem cj_d17_1 : e2_idh 5 8 h_d17_1 = true := by decide +kernel
theorem cs_d17 (hen : en_ok) (l : Launch) : e2_smOk l 2 s_d17 := by
  refine e2_conG (H := 0) (n := 1) (C := evd_224) (S := S_d17) (I := I_d17) (fuel := 4000) hen ei_224 e2_fz (e2_fa ein_216 (e2_fa ein_217 e2_fz)) (by decide) co_d17 fun M d _ hC hcall p e R s m args below meth c Q D cA A ads r0 ha hl0 => ?_
  have L_0 : e2_gdM M p l e R s m args below meth c Q D cA A ads r0 12 al_d17_0 [] E_d17_0 h_d17_0 := by
    refine e2_indL (u := 4) (j := 1) (lo := 2147483648) (hi := 2147483656) (b := 4) (dd := 0) hl0 (by decide) rfl rfl (Or.inr ⟨rfl, rfl⟩) rfl ci_d17_0 cj_d17_0 ?_
    intro r_0 k_0 hk_0 hp_0 hs_0 hn_0
    have hl_0 : r_0.length ≤ 5 := hs_0.len rfl
    have ha_0 := ha.ext hp_0
    have L_1 : e2_gdM M p l e R s m args below meth c Q D cA A ads r_0 60 al_d17_1 [] E_d17_1 h_d17_1 := by
      refine e2_indL (u := 5) (j := 3) (lo := 2147483648) (hi := 2147483668) (b := 5) (dd := 0) hl_0 (by decide) rfl rfl (Or.inr ⟨rfl, rfl⟩) rfl ci_d17_1 cj_d17_1 ?_
      intro r_1 k_1 hk_1 hp_1 hs_1 hn_1
      have hl_1 : r_1.length ≤ 6 := hs_1.len rfl
      have ha_1 := ha_0.ext hp_1
      exact e2_fromM hen ha_1 hcall (e2_cutA_ok (e2_fa (fun al st E h hc => (hn_0 al st E h hc).ext hp_1) (e2_fa (fun al st E h hc => hn_1 al st E h hc) e2_fz))) (hC []) (X := e2x_224) ex2_224 60 ck_d17_1
    have EN_1 := e2_entL (u := 5) (j := 3) (lo := 2147483648) (hi := 2147483668) hl_0 rfl rfl rfl ci_d17_1 cj_d17_1 L_1
    exact e2_fromM hen ha_0 hcall (e2_cutA_ok (e2_fa (fun al st E h hc => EN_1 al st E h hc) e2_fz)) (hC []) (X := e2x_224) ex2_224 12 ck_d17_0
  have EN_0 := e2_entL (u := 4) (j := 1) (lo := 2147483648) (hi := 2147483656) hl0 rfl rfl rfl ci_d17_0 cj_d17_0 L_0
  exact e2_from hen ha hcall (e2_cutA_ok (e2_fa (fun al st E h hc => EN_0 al st E h hc) e2_fz)) (hC []) (X := e2x_224) ex2_224 0 ck_d17_e
/-! d18 X10_layWeights -/
def as_d18 : List ev_V := [(2, 83, 0)]
def E_d18 : e2_E := [(2147483648, 2147583648, 0, 0), (2147483648, 2147483656, 1, 0), (2147483648, 2147483688, 2, 0), (2147483648, 2147483688, 3, 0)]
def dc152 : ev_C := (52, [(11, 2147483648, 2147483649), (11, 2147483648, 2147483649), (0, 1, 0), (0, 0, 0)])
def dn394 : e2_Q1 := (dc152, dc3)
def dn395 : e2_Q2 := (dn18, dn394)
def dn396 : e2_Q3 := (dn17, dn395)
def dn397 : e2_Q4 := (dn396, dn370)
def dn398 : e2_Q5 := (dn14, dn397)
def dn399 : e2_Q6 := (dn398, dn288)
def dn400 : e2_Q4 := (dn292, dn346)
def dn401 : e2_Q5 := (dn400, dn123)
def dn402 : e2_Q6 := (dn378, dn401)
def dn403 : e2_Q7 := (dn399, dn402)
def dn404 : e2_Q6 := (dn388, dn301)
def dn405 : e2_Q7 := (dn404, dn313)
def dn406 : e2_Q8 := (dn403, dn405)
noncomputable def f_d18 : ev_H := (dn406 : e2_Q8)
noncomputable def q_d18_0 : ev_H := (dn406 : e2_Q8)
noncomputable def rs_d18 : e2_Rs := [((9, 0, 0), q_d18_0)]
noncomputable def s_d18 : e2_Sm := (224, as_d18, E_d18, f_d18, rs_d18)
noncomputable def S_d18 : List e2_Sm := [s_d3]
noncomputable def I_d18 : List e2_In := [(213, 2, e2x_213), (216, 1, e2x_216), (217, 1, e2x_217)]
set_option maxRecDepth 1000000 in
theorem co_d18 : e2_okSB E_d18.length as_d18 f_d18 rs_d18 = true := by decide +kernel
def al_d18_0 : List ev_V := [(2, 83, 0), (1, 4, 4294967296), (9, 0, 0), (9, 0, 0)]
def E_d18_0 : e2_E := [(2147483648, 2147583648, 0, 0), (2147483648, 2147483656, 1, 0), (2147483648, 2147483688, 2, 0), (2147483648, 2147483688, 3, 0), (2147483648, 2147483656, 4, 0)]
noncomputable def h_d18_0 : ev_H := (dn406 : e2_Q8)
def al_d18_1 : List ev_V := [(2, 83, 0), (1, 4, 4294967296), (11, 2147483656, 2147483663), (1, 5, 4294967296)]
def E_d18_1 : e2_E := [(2147483648, 2147583648, 0, 0), (2147483649, 2147483656, 1, 0), (2147483648, 2147483688, 2, 0), (2147483648, 2147483688, 3, 0), (2147483648, 2147483655, 4, 0), (2147483648, 2147483668, 5, 0)]
noncomputable def h_d18_1 : ev_H := (dn406 : e2_Q8)
noncomputable def cl_d18_e : List (Nat × e2_S) := [(12, e2_cutL (al_d18_0.set 1 (11, 2147483648, 2147483656)) 4 (E_d18_0.take 4) h_d18_0)]
set_option maxRecDepth 1000000 in
theorem ck_d18_e : e2_run (e2_cal S_d18 I_d18 4000 1) (e2_fin rs_d18) e2x_224 (e2_bpL cl_d18_e) (e2_cutA cl_d18_e) 4000 (e2_seek e2x_224 0) (e2_al 4 as_d18) [] E_d18 f_d18 = true := by decide +kernel
noncomputable def cl_d18_0 : List (Nat × e2_S) := [(60, e2_cutL (al_d18_1.set 3 (11, 2147483648, 2147483668)) 5 (E_d18_1.take 5) h_d18_1)]
set_option maxRecDepth 1000000 in
theorem ck_d18_0 : e2_runM (e2_cal S_d18 I_d18 4000 1) (e2_fin rs_d18) e2x_224 (e2_bpL cl_d18_0) (e2_cutA cl_d18_0) 4000 (e2_seek e2x_224 12) al_d18_0 [] E_d18_0 h_d18_0 = true := by decide +kernel
set_option maxRecDepth 1000000 in
theorem ci_d18_0 : e2_idl 4 (al_d18_0.set 1 (9, 0, 0)) = true := by decide +kernel
set_option maxRecDepth 1000000 in
theorem cj_d18_0 : e2_idh 4 8 h_d18_0 = true := by decide +kernel
noncomputable def cl_d18_1 : List (Nat × e2_S) := [(12, e2_cutL (al_d18_0.set 1 (13, 12, 2147483656)) 4 (E_d18_0.take 4) h_d18_0),
  (60, e2_cutL (al_d18_1.set 3 (13, 13, 2147483668)) 5 (E_d18_1.take 5) h_d18_1)]
set_option maxRecDepth 1000000 in
theorem ck_d18_1 : e2_runM (e2_cal S_d18 I_d18 4000 1) (e2_fin rs_d18) e2x_224 (e2_bpL cl_d18_1) (e2_cutA cl_d18_1) 4000 (e2_seek e2x_224 60) al_d18_1 [] E_d18_1 h_d18_1 = true := by decide +kernel
set_option maxRecDepth 1000000 in
theorem ci_d18_1 : e2_idl 5 (al_d18_1.set 3 (9, 0, 0)) = true := by decide +kernel
set_option maxRecDepth 1000000 in
theorem cj_d18_1 : e2_idh 5 8 h_d18_1 = true := by decide +kernel
theorem cs_d18 (hen : en_ok) (l : Launch) (hh : e2_hand_d l) : e2_smOk l 62 s_d18 := by
  refine e2_conG (H := 60) (n := 1) (C := evd_224) (S := S_d18) (I := I_d18) (fuel := 4000) hen ei_224 (e2_fa (hh _ hm_d3) e2_fz) (e2_fa ein_213 (e2_fa ein_216 (e2_fa ein_217 e2_fz))) (by decide) co_d18 fun M d _ hC hcall p e R s m args below meth c Q D cA A ads r0 ha hl0 => ?_
  have L_0 : e2_gdM M p l e R s m args below meth c Q D cA A ads r0 12 al_d18_0 [] E_d18_0 h_d18_0 := by
    refine e2_indL (u := 4) (j := 1) (lo := 2147483648) (hi := 2147483656) (b := 4) (dd := 0) hl0 (by decide) rfl rfl (Or.inr ⟨rfl, rfl⟩) rfl ci_d18_0 cj_d18_0 ?_
    intro r_0 k_0 hk_0 hp_0 hs_0 hn_0
    have hl_0 : r_0.length ≤ 5 := hs_0.len rfl
    have ha_0 := ha.ext hp_0
    have L_1 : e2_gdM M p l e R s m args below meth c Q D cA A ads r_0 60 al_d18_1 [] E_d18_1 h_d18_1 := by
      refine e2_indL (u := 5) (j := 3) (lo := 2147483648) (hi := 2147483668) (b := 5) (dd := 0) hl_0 (by decide) rfl rfl (Or.inr ⟨rfl, rfl⟩) rfl ci_d18_1 cj_d18_1 ?_
      intro r_1 k_1 hk_1 hp_1 hs_1 hn_1
      have hl_1 : r_1.length ≤ 6 := hs_1.len rfl
      have ha_1 := ha_0.ext hp_1
      exact e2_fromM hen ha_1 hcall (e2_cutA_ok (e2_fa (fun al st E h hc => (hn_0 al st E h hc).ext hp_1) (e2_fa (fun al st E h hc => hn_1 al st E h hc) e2_fz))) (hC []) (X := e2x_224) ex2_224 60 ck_d18_1
    have EN_1 := e2_entL (u := 5) (j := 3) (lo := 2147483648) (hi := 2147483668) hl_0 rfl rfl rfl ci_d18_1 cj_d18_1 L_1
    exact e2_fromM hen ha_0 hcall (e2_cutA_ok (e2_fa (fun al st E h hc => EN_1 al st E h hc) e2_fz)) (hC []) (X := e2x_224) ex2_224 12 ck_d18_0
  have EN_0 := e2_entL (u := 4) (j := 1) (lo := 2147483648) (hi := 2147483656) hl0 rfl rfl rfl ci_d18_0 cj_d18_0 L_0
  exact e2_from hen ha hcall (e2_cutA_ok (e2_fa (fun al st E h hc => EN_0 al st E h hc) e2_fz)) (hC []) (X := e2x_224) ex2_224 0 ck_d18_e
/-! d19 X10_layWeights -/
def as_d19 : List ev_V := [(2, 83, 0)]
def E_d19 : e2_E := [(2147483648, 2147583648, 0, 0), (2147483648, 2147483656, 1, 0), (2147483648, 2147483688, 2, 0), (2147483648, 2147483688, 3, 0)]
def dn407 : e2_Q7 := (dn404, dn317)
def dn408 : e2_Q8 := (dn403, dn407)
noncomputable def f_d19 : ev_H := (dn408 : e2_Q8)
noncomputable def q_d19_0 : ev_H := (dn408 : e2_Q8)
noncomputable def rs_d19 : e2_Rs := [((9, 0, 0), q_d19_0)]
noncomputable def s_d19 : e2_Sm := (224, as_d19, E_d19, f_d19, rs_d19)
noncomputable def S_d19 : List e2_Sm := [s_d4]
noncomputable def I_d19 : List e2_In := [(213, 2, e2x_213), (216, 1, e2x_216), (217, 1, e2x_217)]
set_option maxRecDepth 1000000 in
theorem co_d19 : e2_okSB E_d19.length as_d19 f_d19 rs_d19 = true := by decide +kernel
def al_d19_0 : List ev_V := [(2, 83, 0), (1, 4, 4294967296), (9, 0, 0), (9, 0, 0)]
def E_d19_0 : e2_E := [(2147483648, 2147583648, 0, 0), (2147483648, 2147483656, 1, 0), (2147483648, 2147483688, 2, 0), (2147483648, 2147483688, 3, 0), (2147483648, 2147483656, 4, 0)]
noncomputable def h_d19_0 : ev_H := (dn408 : e2_Q8)
def al_d19_1 : List ev_V := [(2, 83, 0), (1, 4, 4294967296), (11, 2147483656, 2147483663), (1, 5, 4294967296)]
def E_d19_1 : e2_E := [(2147483648, 2147583648, 0, 0), (2147483649, 2147483656, 1, 0), (2147483648, 2147483688, 2, 0), (2147483648, 2147483688, 3, 0), (2147483648, 2147483655, 4, 0), (2147483648, 2147483668, 5, 0)]
noncomputable def h_d19_1 : ev_H := (dn408 : e2_Q8)
noncomputable def cl_d19_e : List (Nat × e2_S) := [(12, e2_cutL (al_d19_0.set 1 (11, 2147483648, 2147483656)) 4 (E_d19_0.take 4) h_d19_0)]
set_option maxRecDepth 1000000 in
theorem ck_d19_e : e2_run (e2_cal S_d19 I_d19 4000 1) (e2_fin rs_d19) e2x_224 (e2_bpL cl_d19_e) (e2_cutA cl_d19_e) 4000 (e2_seek e2x_224 0) (e2_al 4 as_d19) [] E_d19 f_d19 = true := by decide +kernel
noncomputable def cl_d19_0 : List (Nat × e2_S) := [(60, e2_cutL (al_d19_1.set 3 (11, 2147483648, 2147483668)) 5 (E_d19_1.take 5) h_d19_1)]
set_option maxRecDepth 1000000 in
theorem ck_d19_0 : e2_runM (e2_cal S_d19 I_d19 4000 1) (e2_fin rs_d19) e2x_224 (e2_bpL cl_d19_0) (e2_cutA cl_d19_0) 4000 (e2_seek e2x_224 12) al_d19_0 [] E_d19_0 h_d19_0 = true := by decide +kernel
set_option maxRecDepth 1000000 in
theorem ci_d19_0 : e2_idl 4 (al_d19_0.set 1 (9, 0, 0)) = true := by decide +kernel
set_option maxRecDepth 1000000 in
theorem cj_d19_0 : e2_idh 4 8 h_d19_0 = true := by decide +kernel
noncomputable def cl_d19_1 : List (Nat × e2_S) := [(12, e2_cutL (al_d19_0.set 1 (13, 12, 2147483656)) 4 (E_d19_0.take 4) h_d19_0),
  (60, e2_cutL (al_d19_1.set 3 (13, 13, 2147483668)) 5 (E_d19_1.take 5) h_d19_1)]
set_option maxRecDepth 1000000 in
theorem ck_d19_1 : e2_runM (e2_cal S_d19 I_d19 4000 1) (e2_fin rs_d19) e2x_224 (e2_bpL cl_d19_1) (e2_cutA cl_d19_1) 4000 (e2_seek e2x_224 60) al_d19_1 [] E_d19_1 h_d19_1 = true := by decide +kernel
set_option maxRecDepth 1000000 in
theorem ci_d19_1 : e2_idl 5 (al_d19_1.set 3 (9, 0, 0)) = true := by decide +kernel
set_option maxRecDepth 1000000 in
theorem cj_d19_1 : e2_idh 5 8 h_d19_1 = true := by decide +kernel
theorem cs_d19 (hen : en_ok) (l : Launch) (hh : e2_hand_d l) : e2_smOk l 62 s_d19 := by
  refine e2_conG (H := 60) (n := 1) (C := evd_224) (S := S_d19) (I := I_d19) (fuel := 4000) hen ei_224 (e2_fa (hh _ hm_d4) e2_fz) (e2_fa ein_213 (e2_fa ein_216 (e2_fa ein_217 e2_fz))) (by decide) co_d19 fun M d _ hC hcall p e R s m args below meth c Q D cA A ads r0 ha hl0 => ?_
  have L_0 : e2_gdM M p l e R s m args below meth c Q D cA A ads r0 12 al_d19_0 [] E_d19_0 h_d19_0 := by
    refine e2_indL (u := 4) (j := 1) (lo := 2147483648) (hi := 2147483656) (b := 4) (dd := 0) hl0 (by decide) rfl rfl (Or.inr ⟨rfl, rfl⟩) rfl ci_d19_0 cj_d19_0 ?_
    intro r_0 k_0 hk_0 hp_0 hs_0 hn_0
    have hl_0 : r_0.length ≤ 5 := hs_0.len rfl
    have ha_0 := ha.ext hp_0
    have L_1 : e2_gdM M p l e R s m args below meth c Q D cA A ads r_0 60 al_d19_1 [] E_d19_1 h_d19_1 := by
      refine e2_indL (u := 5) (j := 3) (lo := 2147483648) (hi := 2147483668) (b := 5) (dd := 0) hl_0 (by decide) rfl rfl (Or.inr ⟨rfl, rfl⟩) rfl ci_d19_1 cj_d19_1 ?_
      intro r_1 k_1 hk_1 hp_1 hs_1 hn_1
      have hl_1 : r_1.length ≤ 6 := hs_1.len rfl
      have ha_1 := ha_0.ext hp_1
      exact e2_fromM hen ha_1 hcall (e2_cutA_ok (e2_fa (fun al st E h hc => (hn_0 al st E h hc).ext hp_1) (e2_fa (fun al st E h hc => hn_1 al st E h hc) e2_fz))) (hC []) (X := e2x_224) ex2_224 60 ck_d19_1
    have EN_1 := e2_entL (u := 5) (j := 3) (lo := 2147483648) (hi := 2147483668) hl_0 rfl rfl rfl ci_d19_1 cj_d19_1 L_1
    exact e2_fromM hen ha_0 hcall (e2_cutA_ok (e2_fa (fun al st E h hc => EN_1 al st E h hc) e2_fz)) (hC []) (X := e2x_224) ex2_224 12 ck_d19_0
  have EN_0 := e2_entL (u := 4) (j := 1) (lo := 2147483648) (hi := 2147483656) hl0 rfl rfl rfl ci_d19_0 cj_d19_0 L_0
  exact e2_from hen ha hcall (e2_cutA_ok (e2_fa (fun al st E h hc => EN_0 al st E h hc) e2_fz)) (hC []) (X := e2x_224) ex2_224 0 ck_d19_e
/-! d20 X10_layWeights -/
def as_d20 : List ev_V := [(2, 83, 0)]
def E_d20 : e2_E := [(2147483648, 2147583648, 0, 0), (2147483648, 2147483656, 1, 0), (2147483648, 2147483688, 2, 0), (2147483648, 2147483688, 3, 0)]
def dc153 : ev_C := (52, [(11, 2147483648, 2147483649), (11, 2147483648, 2147483649), (0, 0, 0), (0, 1, 0)])
def dn409 : e2_Q1 := (dc153, dc3)
def dn410 : e2_Q2 := (dn18, dn409)
def dn411 : e2_Q3 := (dn17, dn410)
def dn412 : e2_Q4 := (dn411, dn370)
def dn413 : e2_Q5 := (dn14, dn412)
def dn414 : e2_Q6 := (dn413, dn61)
def dn415 : e2_Q7 := (dn414, dn379)
def dn416 : e2_Q8 := (dn415, dn390)
noncomputable def f_d20 : ev_H := (dn416 : e2_Q8)
noncomputable def q_d20_0 : ev_H := (dn416 : e2_Q8)
noncomputable def rs_d20 : e2_Rs := [((9, 0, 0), q_d20_0)]
noncomputable def s_d20 : e2_Sm := (224, as_d20, E_d20, f_d20, rs_d20)
noncomputable def S_d20 : List e2_Sm := []
noncomputable def I_d20 : List e2_In := [(216, 1, e2x_216), (217, 1, e2x_217)]
set_option maxRecDepth 1000000 in
theorem co_d20 : e2_okSB E_d20.length as_d20 f_d20 rs_d20 = true := by decide +kernel
def al_d20_0 : List ev_V := [(2, 83, 0), (1, 4, 4294967296), (9, 0, 0), (9, 0, 0)]
def E_d20_0 : e2_E := [(2147483648, 2147583648, 0, 0), (2147483648, 2147483656, 1, 0), (2147483648, 2147483688, 2, 0), (2147483648, 2147483688, 3, 0), (2147483648, 2147483656, 4, 0)]
noncomputable def h_d20_0 : ev_H := (dn416 : e2_Q8)
def al_d20_1 : List ev_V := [(2, 83, 0), (1, 4, 4294967296), (11, 2147483656, 2147483663), (1, 5, 4294967296)]
def E_d20_1 : e2_E := [(2147483648, 2147583648, 0, 0), (2147483649, 2147483656, 1, 0), (2147483648, 2147483688, 2, 0), (2147483648, 2147483688, 3, 0), (2147483648, 2147483655, 4, 0), (2147483648, 2147483668, 5, 0)]
noncomputable def h_d20_1 : ev_H := (dn416 : e2_Q8)
noncomputable def cl_d20_e : List (Nat × e2_S) := [(12, e2_cutL (al_d20_0.set 1 (11, 2147483648, 2147483656)) 4 (E_d20_0.take 4) h_d20_0)]
set_option maxRecDepth 1000000 in
theorem ck_d20_e : e2_run (e2_cal S_d20 I_d20 4000 1) (e2_fin rs_d20) e2x_224 (e2_bpL cl_d20_e) (e2_cutA cl_d20_e) 4000 (e2_seek e2x_224 0) (e2_al 4 as_d20) [] E_d20 f_d20 = true := by decide +kernel
noncomputable def cl_d20_0 : List (Nat × e2_S) := [(60, e2_cutL (al_d20_1.set 3 (11, 2147483648, 2147483668)) 5 (E_d20_1.take 5) h_d20_1)]
set_option maxRecDepth 1000000 in
theorem ck_d20_0 : e2_runM (e2_cal S_d20 I_d20 4000 1) (e2_fin rs_d20) e2x_224 (e2_bpL cl_d20_0) (e2_cutA cl_d20_0) 4000 (e2_seek e2x_224 12) al_d20_0 [] E_d20_0 h_d20_0 = true := by decide +kernel
set_option maxRecDepth 1000000 in
theorem ci_d20_0 : e2_idl 4 (al_d20_0.set 1 (9, 0, 0)) = true := by decide +kernel
set_option maxRecDepth 1000000 in
theorem cj_d20_0 : e2_idh 4 8 h_d20_0 = true := by decide +kernel
noncomputable def cl_d20_1 : List (Nat × e2_S) := [(12, e2_cutL (al_d20_0.set 1 (13, 12, 2147483656)) 4 (E_d20_0.take 4) h_d20_0),
  (60, e2_cutL (al_d20_1.set 3 (13, 13, 2147483668)) 5 (E_d20_1.take 5) h_d20_1)]
set_option maxRecDepth 1000000 in
theorem ck_d20_1 : e2_runM (e2_cal S_d20 I_d20 4000 1) (e2_fin rs_d20) e2x_224 (e2_bpL cl_d20_1) (e2_cutA cl_d20_1) 4000 (e2_seek e2x_224 60) al_d20_1 [] E_d20_1 h_d20_1 = true := by decide +kernel
set_option maxRecDepth 1000000 in
theorem ci_d20_1 : e2_idl 5 (al_d20_1.set 3 (9, 0, 0)) = true := by decide +kernel
set_option maxRecDepth 1000000 in
theorem cj_d20_1 : e2_idh 5 8 h_d20_1 = true := by decide +kernel
theorem cs_d20 (hen : en_ok) (l : Launch) : e2_smOk l 2 s_d20 := by
  refine e2_conG (H := 0) (n := 1) (C := evd_224) (S := S_d20) (I := I_d20) (fuel := 4000) hen ei_224 e2_fz (e2_fa ein_216 (e2_fa ein_217 e2_fz)) (by decide) co_d20 fun M d _ hC hcall p e R s m args below meth c Q D cA A ads r0 ha hl0 => ?_
  have L_0 : e2_gdM M p l e R s m args below meth c Q D cA A ads r0 12 al_d20_0 [] E_d20_0 h_d20_0 := by
    refine e2_indL (u := 4) (j := 1) (lo := 2147483648) (hi := 2147483656) (b := 4) (dd := 0) hl0 (by decide) rfl rfl (Or.inr ⟨rfl, rfl⟩) rfl ci_d20_0 cj_d20_0 ?_
    intro r_0 k_0 hk_0 hp_0 hs_0 hn_0
    have hl_0 : r_0.length ≤ 5 := hs_0.len rfl
    have ha_0 := ha.ext hp_0
    have L_1 : e2_gdM M p l e R s m args below meth c Q D cA A ads r_0 60 al_d20_1 [] E_d20_1 h_d20_1 := by
      refine e2_indL (u := 5) (j := 3) (lo := 2147483648) (hi := 2147483668) (b := 5) (dd := 0) hl_0 (by decide) rfl rfl (Or.inr ⟨rfl, rfl⟩) rfl ci_d20_1 cj_d20_1 ?_
      intro r_1 k_1 hk_1 hp_1 hs_1 hn_1
      have hl_1 : r_1.length ≤ 6 := hs_1.len rfl
      have ha_1 := ha_0.ext hp_1
      exact e2_fromM hen ha_1 hcall (e2_cutA_ok (e2_fa (fun al st E h hc => (hn_0 al st E h hc).ext hp_1) (e2_fa (fun al st E h hc => hn_1 al st E h hc) e2_fz))) (hC []) (X := e2x_224) ex2_224 60 ck_d20_1
    have EN_1 := e2_entL (u := 5) (j := 3) (lo := 2147483648) (hi := 2147483668) hl_0 rfl rfl rfl ci_d20_1 cj_d20_1 L_1
    exact e2_fromM hen ha_0 hcall (e2_cutA_ok (e2_fa (fun al st E h hc => EN_1 al st E h hc) e2_fz)) (hC []) (X := e2x_224) ex2_224 12 ck_d20_0
  have EN_0 := e2_entL (u := 4) (j := 1) (lo := 2147483648) (hi := 2147483656) hl0 rfl rfl rfl ci_d20_0 cj_d20_0 L_0
  exact e2_from hen ha hcall (e2_cutA_ok (e2_fa (fun al st E h hc => EN_0 al st E h hc) e2_fz)) (hC []) (X := e2x_224) ex2_224 0 ck_d20_e
/-! d21 X10_layWeights -/
def as_d21 : List ev_V := [(2, 83, 0)]
def E_d21 : e2_E := [(2147483648, 2147583648, 0, 0), (2147483648, 2147483656, 1, 0), (2147483648, 2147483688, 2, 0), (2147483648, 2147483688, 3, 0)]
def dn417 : e2_Q8 := (dn415, dn392)
noncomputable def f_d21 : ev_H := (dn417 : e2_Q8)
noncomputable def q_d21_0 : ev_H := (dn417 : e2_Q8)
noncomputable def rs_d21 : e2_Rs := [((9, 0, 0), q_d21_0)]
noncomputable def s_d21 : e2_Sm := (224, as_d21, E_d21, f_d21, rs_d21)
noncomputable def S_d21 : List e2_Sm := []
noncomputable def I_d21 : List e2_In := [(216, 1, e2x_216), (217, 1, e2x_217)]
set_option maxRecDepth 1000000 in
theorem co_d21 : e2_okSB E_d21.length as_d21 f_d21 rs_d21 = true := by decide +kernel
def al_d21_0 : List ev_V := [(2, 83, 0), (1, 4, 4294967296), (9, 0, 0), (9, 0, 0)]
def E_d21_0 : e2_E := [(2147483648, 2147583648, 0, 0), (2147483648, 2147483656, 1, 0), (2147483648, 2147483688, 2, 0), (2147483648, 2147483688, 3, 0), (2147483648, 2147483656, 4, 0)]
noncomputable def h_d21_0 : ev_H := (dn417 : e2_Q8)
def al_d21_1 : List ev_V := [(2, 83, 0), (1, 4, 4294967296), (11, 2147483656, 2147483663), (1, 5, 4294967296)]
def E_d21_1 : e2_E := [(2147483648, 2147583648, 0, 0), (2147483649, 2147483656, 1, 0), (2147483648, 2147483688, 2, 0), (2147483648, 2147483688, 3, 0), (2147483648, 2147483655, 4, 0), (2147483648, 2147483668, 5, 0)]
noncomputable def h_d21_1 : ev_H := (dn417 : e2_Q8)
noncomputable def cl_d21_e : List (Nat × e2_S) := [(12, e2_cutL (al_d21_0.set 1 (11, 2147483648, 2147483656)) 4 (E_d21_0.take 4) h_d21_0)]
set_option maxRecDepth 1000000 in
theorem ck_d21_e : e2_run (e2_cal S_d21 I_d21 4000 1) (e2_fin rs_d21) e2x_224 (e2_bpL cl_d21_e) (e2_cutA cl_d21_e) 4000 (e2_seek e2x_224 0) (e2_al 4 as_d21) [] E_d21 f_d21 = true := by decide +kernel
noncomputable def cl_d21_0 : List (Nat × e2_S) := [(60, e2_cutL (al_d21_1.set 3 (11, 2147483648, 2147483668)) 5 (E_d21_1.take 5) h_d21_1)]
set_option maxRecDepth 1000000 in
theorem ck_d21_0 : e2_runM (e2_cal S_d21 I_d21 4000 1) (e2_fin rs_d21) e2x_224 (e2_bpL cl_d21_0) (e2_cutA cl_d21_0) 4000 (e2_seek e2x_224 12) al_d21_0 [] E_d21_0 h_d21_0 = true := by decide +kernel
set_option maxRecDepth 1000000 in
theorem ci_d21_0 : e2_idl 4 (al_d21_0.set 1 (9, 0, 0)) = true := by decide +kernel
set_option maxRecDepth 1000000 in
theorem cj_d21_0 : e2_idh 4 8 h_d21_0 = true := by decide +kernel
noncomputable def cl_d21_1 : List (Nat × e2_S) := [(12, e2_cutL (al_d21_0.set 1 (13, 12, 2147483656)) 4 (E_d21_0.take 4) h_d21_0),
  (60, e2_cutL (al_d21_1.set 3 (13, 13, 2147483668)) 5 (E_d21_1.take 5) h_d21_1)]
set_option maxRecDepth 1000000 in
theorem ck_d21_1 : e2_runM (e2_cal S_d21 I_d21 4000 1) (e2_fin rs_d21) e2x_224 (e2_bpL cl_d21_1) (e2_cutA cl_d21_1) 4000 (e2_seek e2x_224 60) al_d21_1 [] E_d21_1 h_d21_1 = true := by decide +kernel
set_option maxRecDepth 1000000 in
theorem ci_d21_1 : e2_idl 5 (al_d21_1.set 3 (9, 0, 0)) = true := by decide +kernel
set_option maxRecDepth 1000000 in
theorem cj_d21_1 : e2_idh 5 8 h_d21_1 = true := by decide +kernel
theorem cs_d21 (hen : en_ok) (l : Launch) : e2_smOk l 2 s_d21 := by
  refine e2_conG (H := 0) (n := 1) (C := evd_224) (S := S_d21) (I := I_d21) (fuel := 4000) hen ei_224 e2_fz (e2_fa ein_216 (e2_fa ein_217 e2_fz)) (by decide) co_d21 fun M d _ hC hcall p e R s m args below meth c Q D cA A ads r0 ha hl0 => ?_
  have L_0 : e2_gdM M p l e R s m args below meth c Q D cA A ads r0 12 al_d21_0 [] E_d21_0 h_d21_0 := by
    refine e2_indL (u := 4) (j := 1) (lo := 2147483648) (hi := 2147483656) (b := 4) (dd := 0) hl0 (by decide) rfl rfl (Or.inr ⟨rfl, rfl⟩) rfl ci_d21_0 cj_d21_0 ?_
    intro r_0 k_0 hk_0 hp_0 hs_0 hn_0
    have hl_0 : r_0.length ≤ 5 := hs_0.len rfl
    have ha_0 := ha.ext hp_0
    have L_1 : e2_gdM M p l e R s m args below meth c Q D cA A ads r_0 60 al_d21_1 [] E_d21_1 h_d21_1 := by
      refine e2_indL (u := 5) (j := 3) (lo := 2147483648) (hi := 2147483668) (b := 5) (dd := 0) hl_0 (by decide) rfl rfl (Or.inr ⟨rfl, rfl⟩) rfl ci_d21_1 cj_d21_1 ?_
      intro r_1 k_1 hk_1 hp_1 hs_1 hn_1
      have hl_1 : r_1.length ≤ 6 := hs_1.len rfl
      have ha_1 := ha_0.ext hp_1
      exact e2_fromM hen ha_1 hcall (e2_cutA_ok (e2_fa (fun al st E h hc => (hn_0 al st E h hc).ext hp_1) (e2_fa (fun al st E h hc => hn_1 al st E h hc) e2_fz))) (hC []) (X := e2x_224) ex2_224 60 ck_d21_1
    have EN_1 := e2_entL (u := 5) (j := 3) (lo := 2147483648) (hi := 2147483668) hl_0 rfl rfl rfl ci_d21_1 cj_d21_1 L_1
    exact e2_fromM hen ha_0 hcall (e2_cutA_ok (e2_fa (fun al st E h hc => EN_1 al st E h hc) e2_fz)) (hC []) (X := e2x_224) ex2_224 12 ck_d21_0
  have EN_0 := e2_entL (u := 4) (j := 1) (lo := 2147483648) (hi := 2147483656) hl0 rfl rfl rfl ci_d21_0 cj_d21_0 L_0
  exact e2_from hen ha hcall (e2_cutA_ok (e2_fa (fun al st E h hc => EN_0 al st E h hc) e2_fz)) (hC []) (X := e2x_224) ex2_224 0 ck_d21_e
/-! d22 X10_layWeights -/
def as_d22 : List ev_V := [(2, 83, 0)]
def E_d22 : e2_E := [(2147483648, 2147583648, 0, 0), (2147483648, 2147483656, 1, 0), (2147483648, 2147483688, 2, 0), (2147483648, 2147483688, 3, 0)]
def dc154 : ev_C := (52, [(11, 2147483648, 2147483649), (11, 2147483648, 2147483649), (0, 1, 0), (0, 1, 0)])
def dn418 : e2_Q1 := (dc154, dc3)
def dn419 : e2_Q2 := (dn18, dn418)
def dn420 : e2_Q3 := (dn17, dn419)
def dn421 : e2_Q4 := (dn420, dn370)
def dn422 : e2_Q5 := (dn14, dn421)
def dn423 : e2_Q6 := (dn422, dn288)
def dn424 : e2_Q7 := (dn423, dn402)
def dn425 : e2_Q7 := (dn404, dn337)
def dn426 : e2_Q8 := (dn424, dn425)
noncomputable def f_d22 : ev_H := (dn426 : e2_Q8)
noncomputable def q_d22_0 : ev_H := (dn426 : e2_Q8)
noncomputable def rs_d22 : e2_Rs := [((9, 0, 0), q_d22_0)]
noncomputable def s_d22 : e2_Sm := (224, as_d22, E_d22, f_d22, rs_d22)
noncomputable def S_d22 : List e2_Sm := [s_d7]
noncomputable def I_d22 : List e2_In := [(213, 2, e2x_213), (216, 1, e2x_216), (217, 1, e2x_217)]
set_option maxRecDepth 1000000 in
theorem co_d22 : e2_okSB E_d22.length as_d22 f_d22 rs_d22 = true := by decide +kernel
def al_d22_0 : List ev_V := [(2, 83, 0), (1, 4, 4294967296), (9, 0, 0), (9, 0, 0)]
def E_d22_0 : e2_E := [(2147483648, 2147583648, 0, 0), (2147483648, 2147483656, 1, 0), (2147483648, 2147483688, 2, 0), (2147483648, 2147483688, 3, 0), (2147483648, 2147483656, 4, 0)]
noncomputable def h_d22_0 : ev_H := (dn426 : e2_Q8)
def al_d22_1 : List ev_V := [(2, 83, 0), (1, 4, 4294967296), (11, 2147483656, 2147483663), (1, 5, 4294967296)]
def E_d22_1 : e2_E := [(2147483648, 2147583648, 0, 0), (2147483649, 2147483656, 1, 0), (2147483648, 2147483688, 2, 0), (2147483648, 2147483688, 3, 0), (2147483648, 2147483655, 4, 0), (2147483648, 2147483668, 5, 0)]
noncomputable def h_d22_1 : ev_H := (dn426 : e2_Q8)
noncomputable def cl_d22_e : List (Nat × e2_S) := [(12, e2_cutL (al_d22_0.set 1 (11, 2147483648, 2147483656)) 4 (E_d22_0.take 4) h_d22_0)]
set_option maxRecDepth 1000000 in
theorem ck_d22_e : e2_run (e2_cal S_d22 I_d22 4000 1) (e2_fin rs_d22) e2x_224 (e2_bpL cl_d22_e) (e2_cutA cl_d22_e) 4000 (e2_seek e2x_224 0) (e2_al 4 as_d22) [] E_d22 f_d22 = true := by decide +kernel
noncomputable def cl_d22_0 : List (Nat × e2_S) := [(60, e2_cutL (al_d22_1.set 3 (11, 2147483648, 2147483668)) 5 (E_d22_1.take 5) h_d22_1)]
set_option maxRecDepth 1000000 in
theorem ck_d22_0 : e2_runM (e2_cal S_d22 I_d22 4000 1) (e2_fin rs_d22) e2x_224 (e2_bpL cl_d22_0) (e2_cutA cl_d22_0) 4000 (e2_seek e2x_224 12) al_d22_0 [] E_d22_0 h_d22_0 = true := by decide +kernel
set_option maxRecDepth 1000000 in
theorem ci_d22_0 : e2_idl 4 (al_d22_0.set 1 (9, 0, 0)) = true := by decide +kernel
set_option maxRecDepth 1000000 in
theorem cj_d22_0 : e2_idh 4 8 h_d22_0 = true := by decide +kernel
noncomputable def cl_d22_1 : List (Nat × e2_S) := [(12, e2_cutL (al_d22_0.set 1 (13, 12, 2147483656)) 4 (E_d22_0.take 4) h_d22_0),
  (60, e2_cutL (al_d22_1.set 3 (13, 13, 2147483668)) 5 (E_d22_1.take 5) h_d22_1)]
set_option maxRecDepth 1000000 in
theorem ck_d22_1 : e2_runM (e2_cal S_d22 I_d22 4000 1) (e2_fin rs_d22) e2x_224 (e2_bpL cl_d22_1) (e2_cutA cl_d22_1) 4000 (e2_seek e2x_224 60) al_d22_1 [] E_d22_1 h_d22_1 = true := by decide +kernel
set_option maxRecDepth 1000000 in
theorem ci_d22_1 : e2_idl 5 (al_d22_1.set 3 (9, 0, 0)) = true := by decide +kernel
set_option maxRecDepth 1000000 in
theorem cj_d22_1 : e2_idh 5 8 h_d22_1 = true := by decide +kernel
theorem cs_d22 (hen : en_ok) (l : Launch) (hh : e2_hand_d l) : e2_smOk l 62 s_d22 := by
  refine e2_conG (H := 60) (n := 1) (C := evd_224) (S := S_d22) (I := I_d22) (fuel := 4000) hen ei_224 (e2_fa (hh _ hm_d7) e2_fz) (e2_fa ein_213 (e2_fa ein_216 (e2_fa ein_217 e2_fz))) (by decide) co_d22 fun M d _ hC hcall p e R s m args below meth c Q D cA A ads r0 ha hl0 => ?_
  have L_0 : e2_gdM M p l e R s m args below meth c Q D cA A ads r0 12 al_d22_0 [] E_d22_0 h_d22_0 := by
    refine e2_indL (u := 4) (j := 1) (lo := 2147483648) (hi := 2147483656) (b := 4) (dd := 0) hl0 (by decide) rfl rfl (Or.inr ⟨rfl, rfl⟩) rfl ci_d22_0 cj_d22_0 ?_
    intro r_0 k_0 hk_0 hp_0 hs_0 hn_0
    have hl_0 : r_0.length ≤ 5 := hs_0.len rfl
    have ha_0 := ha.ext hp_0
    have L_1 : e2_gdM M p l e R s m args below meth c Q D cA A ads r_0 60 al_d22_1 [] E_d22_1 h_d22_1 := by
      refine e2_indL (u := 5) (j := 3) (lo := 2147483648) (hi := 2147483668) (b := 5) (dd := 0) hl_0 (by decide) rfl rfl (Or.inr ⟨rfl, rfl⟩) rfl ci_d22_1 cj_d22_1 ?_
      intro r_1 k_1 hk_1 hp_1 hs_1 hn_1
      have hl_1 : r_1.length ≤ 6 := hs_1.len rfl
      have ha_1 := ha_0.ext hp_1
      exact e2_fromM hen ha_1 hcall (e2_cutA_ok (e2_fa (fun al st E h hc => (hn_0 al st E h hc).ext hp_1) (e2_fa (fun al st E h hc => hn_1 al st E h hc) e2_fz))) (hC []) (X := e2x_224) ex2_224 60 ck_d22_1
    have EN_1 := e2_entL (u := 5) (j := 3) (lo := 2147483648) (hi := 2147483668) hl_0 rfl rfl rfl ci_d22_1 cj_d22_1 L_1
    exact e2_fromM hen ha_0 hcall (e2_cutA_ok (e2_fa (fun al st E h hc => EN_1 al st E h hc) e2_fz)) (hC []) (X := e2x_224) ex2_224 12 ck_d22_0
  have EN_0 := e2_entL (u := 4) (j := 1) (lo := 2147483648) (hi := 2147483656) hl0 rfl rfl rfl ci_d22_0 cj_d22_0 L_0
  exact e2_from hen ha hcall (e2_cutA_ok (e2_fa (fun al st E h hc => EN_0 al st E h hc) e2_fz)) (hC []) (X := e2x_224) ex2_224 0 ck_d22_e
/-! d23 X10_layWeights -/
def as_d23 : List ev_V := [(2, 83, 0)]
def E_d23 : e2_E := [(2147483648, 2147583648, 0, 0), (2147483648, 2147483656, 1, 0), (2147483648, 2147483688, 2, 0), (2147483648, 2147483688, 3, 0)]
def dn427 : e2_Q7 := (dn404, dn341)
def dn428 : e2_Q8 := (dn424, dn427)
noncomputable def f_d23 : ev_H := (dn428 : e2_Q8)
noncomputable def q_d23_0 : ev_H := (dn428 : e2_Q8)
noncomputable def rs_d23 : e2_Rs := [((9, 0, 0), q_d23_0)]
noncomputable def s_d23 : e2_Sm := (224, as_d23, E_d23, f_d23, rs_d23)
noncomputable def S_d23 : List e2_Sm := [s_d8]
noncomputable def I_d23 : List e2_In := [(213, 2, e2x_213), (216, 1, e2x_216), (217, 1, e2x_217)]
set_option maxRecDepth 1000000 in
theorem co_d23 : e2_okSB E_d23.length as_d23 f_d23 rs_d23 = true := by decide +kernel
def al_d23_0 : List ev_V := [(2, 83, 0), (1, 4, 4294967296), (9, 0, 0), (9, 0, 0)]
def E_d23_0 : e2_E := [(2147483648, 2147583648, 0, 0), (2147483648, 2147483656, 1, 0), (2147483648, 2147483688, 2, 0), (2147483648, 2147483688, 3, 0), (2147483648, 2147483656, 4, 0)]
noncomputable def h_d23_0 : ev_H := (dn428 : e2_Q8)
def al_d23_1 : List ev_V := [(2, 83, 0), (1, 4, 4294967296), (11, 2147483656, 2147483663), (1, 5, 4294967296)]
def E_d23_1 : e2_E := [(2147483648, 2147583648, 0, 0), (2147483649, 2147483656, 1, 0), (2147483648, 2147483688, 2, 0), (2147483648, 2147483688, 3, 0), (2147483648, 2147483655, 4, 0), (2147483648, 2147483668, 5, 0)]
noncomputable def h_d23_1 : ev_H := (dn428 : e2_Q8)
noncomputable def cl_d23_e : List (Nat × e2_S) := [(12, e2_cutL (al_d23_0.set 1 (11, 2147483648, 2147483656)) 4 (E_d23_0.take 4) h_d23_0)]
set_option maxRecDepth 1000000 in
theorem ck_d23_e : e2_run (e2_cal S_d23 I_d23 4000 1) (e2_fin rs_d23) e2x_224 (e2_bpL cl_d23_e) (e2_cutA cl_d23_e) 4000 (e2_seek e2x_224 0) (e2_al 4 as_d23) [] E_d23 f_d23 = true := by decide +kernel
noncomputable def cl_d23_0 : List (Nat × e2_S) := [(60, e2_cutL (al_d23_1.set 3 (11, 2147483648, 2147483668)) 5 (E_d23_1.take 5) h_d23_1)]
set_option maxRecDepth 1000000 in
theorem ck_d23_0 : e2_runM (e2_cal S_d23 I_d23 4000 1) (e2_fin rs_d23) e2x_224 (e2_bpL cl_d23_0) (e2_cutA cl_d23_0) 4000 (e2_seek e2x_224 12) al_d23_0 [] E_d23_0 h_d23_0 = true := by decide +kernel
set_option maxRecDepth 1000000 in
theorem ci_d23_0 : e2_idl 4 (al_d23_0.set 1 (9, 0, 0)) = true := by decide +kernel
set_option maxRecDepth 1000000 in
theorem cj_d23_0 : e2_idh 4 8 h_d23_0 = true := by decide +kernel
noncomputable def cl_d23_1 : List (Nat × e2_S) := [(12, e2_cutL (al_d23_0.set 1 (13, 12, 2147483656)) 4 (E_d23_0.take 4) h_d23_0),
  (60, e2_cutL (al_d23_1.set 3 (13, 13, 2147483668)) 5 (E_d23_1.take 5) h_d23_1)]
set_option maxRecDepth 1000000 in
theorem ck_d23_1 : e2_runM (e2_cal S_d23 I_d23 4000 1) (e2_fin rs_d23) e2x_224 (e2_bpL cl_d23_1) (e2_cutA cl_d23_1) 4000 (e2_seek e2x_224 60) al_d23_1 [] E_d23_1 h_d23_1 = true := by decide +kernel
set_option maxRecDepth 1000000 in
theorem ci_d23_1 : e2_idl 5 (al_d23_1.set 3 (9, 0, 0)) = true := by decide +kernel
set_option maxRecDepth 1000000 in
theorem cj_d23_1 : e2_idh 5 8 h_d23_1 = true := by decide +kernel
theorem cs_d23 (hen : en_ok) (l : Launch) (hh : e2_hand_d l) : e2_smOk l 62 s_d23 := by
  refine e2_conG (H := 60) (n := 1) (C := evd_224) (S := S_d23) (I := I_d23) (fuel := 4000) hen ei_224 (e2_fa (hh _ hm_d8) e2_fz) (e2_fa ein_213 (e2_fa ein_216 (e2_fa ein_217 e2_fz))) (by decide) co_d23 fun M d _ hC hcall p e R s m args below meth c Q D cA A ads r0 ha hl0 => ?_
  have L_0 : e2_gdM M p l e R s m args below meth c Q D cA A ads r0 12 al_d23_0 [] E_d23_0 h_d23_0 := by
    refine e2_indL (u := 4) (j := 1) (lo := 2147483648) (hi := 2147483656) (b := 4) (dd := 0) hl0 (by decide) rfl rfl (Or.inr ⟨rfl, rfl⟩) rfl ci_d23_0 cj_d23_0 ?_
    intro r_0 k_0 hk_0 hp_0 hs_0 hn_0
    have hl_0 : r_0.length ≤ 5 := hs_0.len rfl
    have ha_0 := ha.ext hp_0
    have L_1 : e2_gdM M p l e R s m args below meth c Q D cA A ads r_0 60 al_d23_1 [] E_d23_1 h_d23_1 := by
      refine e2_indL (u := 5) (j := 3) (lo := 2147483648) (hi := 2147483668) (b := 5) (dd := 0) hl_0 (by decide) rfl rfl (Or.inr ⟨rfl, rfl⟩) rfl ci_d23_1 cj_d23_1 ?_
      intro r_1 k_1 hk_1 hp_1 hs_1 hn_1
      have hl_1 : r_1.length ≤ 6 := hs_1.len rfl
      have ha_1 := ha_0.ext hp_1
      exact e2_fromM hen ha_1 hcall (e2_cutA_ok (e2_fa (fun al st E h hc => (hn_0 al st E h hc).ext hp_1) (e2_fa (fun al st E h hc => hn_1 al st E h hc) e2_fz))) (hC []) (X := e2x_224) ex2_224 60 ck_d23_1
    have EN_1 := e2_entL (u := 5) (j := 3) (lo := 2147483648) (hi := 2147483668) hl_0 rfl rfl rfl ci_d23_1 cj_d23_1 L_1
    exact e2_fromM hen ha_0 hcall (e2_cutA_ok (e2_fa (fun al st E h hc => EN_1 al st E h hc) e2_fz)) (hC []) (X := e2x_224) ex2_224 12 ck_d23_0
  have EN_0 := e2_entL (u := 4) (j := 1) (lo := 2147483648) (hi := 2147483656) hl0 rfl rfl rfl ci_d23_0 cj_d23_0 L_0
  exact e2_from hen ha hcall (e2_cutA_ok (e2_fa (fun al st E h hc => EN_0 al st E h hc) e2_fz)) (hC []) (X := e2x_224) ex2_224 0 ck_d23_e
/-! d24 X10_layFrom -/
def as_d24 : List ev_V := [(2, 83, 0), (0, 19, 0), (11, 2147483648, 2147483656), (11, 0, 4294967295)]
def E_d24 : e2_E := [(2147483648, 2147583648, 0, 0), (2147483648, 2147483656, 1, 0), (2147483648, 2147483688, 2, 0), (2147483648, 2147483688, 3, 0)]
def dc155 : ev_C := (50, [(11, 0, 4294967295), (11, 0, 4294967295), (11, 0, 4294967295), (11, 0, 4294967295), (11, 0, 4294967295), (11, 0, 4294967295), (11, 0, 4294967295), (11, 0, 4294967295), (11, 0, 4294967295), (11, 0, 4294967295), (11, 0, 4294967295), (11, 0, 4294967295), (11, 0, 4294967295), (11, 0, 4294967295), (11, 0, 4294967295), (11, 0, 4294967295)])
def dn429 : e2_Q1 := (dc155, dc3)
def dn430 : e2_Q2 := (dn3, dn429)
def dn431 : e2_Q3 := (dn2, dn430)
def dn432 : e2_Q4 := (dn431, dn265)
def dn433 : e2_Q4 := (dn21, dn370)
def dn434 : e2_Q5 := (dn432, dn433)
def dn435 : e2_Q2 := (dn34, dn429)
def dn436 : e2_Q3 := (dn33, dn435)
def dn437 : e2_Q4 := (dn436, dn44)
def dn438 : e2_Q5 := (dn437, dn60)
def dn439 : e2_Q6 := (dn434, dn438)
def dc156 : ev_C := (54, [(0, 189, 0), (11, 0, 4294967295)])
def dn440 : e2_Q1 := (dc156, dc3)
def dn441 : e2_Q2 := (dn73, dn440)
def dn442 : e2_Q3 := (dn72, dn441)
def dn443 : e2_Q4 := (dn69, dn442)
def dn444 : e2_Q5 := (dn443, dn92)
def dn445 : e2_Q6 := (dn444, dn348)
def dn446 : e2_Q7 := (dn439, dn445)
def dn447 : e2_Q2 := (dn200, dn440)
def dn448 : e2_Q3 := (dn199, dn447)
def dn449 : e2_Q4 := (dn196, dn448)
def dn450 : e2_Q5 := (dn449, dn219)
def dn451 : e2_Q6 := (dn450, dn251)
def dn452 : e2_Q7 := (dn389, dn451)
def dn453 : e2_Q8 := (dn446, dn452)
noncomputable def f_d24 : ev_H := (dn453 : e2_Q8)
noncomputable def q_d24_0 : ev_H := (dn453 : e2_Q8)
noncomputable def rs_d24 : e2_Rs := [((9, 0, 0), q_d24_0)]
noncomputable def s_d24 : e2_Sm := (229, as_d24, E_d24, f_d24, rs_d24)
noncomputable def S_d24 : List e2_Sm := []
noncomputable def I_d24 : List e2_In := [(215, 2, e2x_215), (216, 1, e2x_216), (217, 1, e2x_217), (225, 5, e2x_225), (226, 3, e2x_226), (227, 2, e2x_227), (228, 3, e2x_228)]
set_option maxRecDepth 1000000 in
theorem co_d24 : e2_okSB E_d24.length as_d24 f_d24 rs_d24 = true := by decide +kernel
def al_d24_0 : List ev_V := [(2, 83, 0), (0, 19, 0), (11, 2147483648, 2147483656), (11, 0, 4294967295), (11, 2147483819, 2147483827), (1, 4, 4294967296), (9, 0, 0), (9, 0, 0)]
def E_d24_0 : e2_E := [(2147483648, 2147583648, 0, 0), (2147483648, 2147483656, 1, 0), (2147483648, 2147483688, 2, 0), (2147483648, 2147483688, 3, 0), (2147483648, 2147483656, 4, 0)]
noncomputable def h_d24_0 : ev_H := (dn453 : e2_Q8)
noncomputable def cl_d24_e : List (Nat × e2_S) := [(28, e2_cutL (al_d24_0.set 5 (11, 2147483648, 2147483656)) 4 (E_d24_0.take 4) h_d24_0)]
set_option maxRecDepth 1000000 in
theorem ck_d24_e : e2_run (e2_cal S_d24 I_d24 4000 2) (e2_fin rs_d24) e2x_229 (e2_bpL cl_d24_e) (e2_cutA cl_d24_e) 4000 (e2_seek e2x_229 0) (e2_al 8 as_d24) [] E_d24 f_d24 = true := by decide +kernel
noncomputable def cl_d24_0 : List (Nat × e2_S) := [(28, e2_cutL (al_d24_0.set 5 (13, 12, 2147483656)) 4 (E_d24_0.take 4) h_d24_0)]
set_option maxRecDepth 1000000 in
theorem ck_d24_0 : e2_runM (e2_cal S_d24 I_d24 4000 2) (e2_fin rs_d24) e2x_229 (e2_bpL cl_d24_0) (e2_cutA cl_d24_0) 4000 (e2_seek e2x_229 28) al_d24_0 [] E_d24_0 h_d24_0 = true := by decide +kernel
set_option maxRecDepth 1000000 in
theorem ci_d24_0 : e2_idl 4 (al_d24_0.set 5 (9, 0, 0)) = true := by decide +kernel
set_option maxRecDepth 1000000 in
theorem cj_d24_0 : e2_idh 4 8 h_d24_0 = true := by decide +kernel
theorem cs_d24 (hen : en_ok) (l : Launch) : e2_smOk l 3 s_d24 := by
  refine e2_conG (H := 0) (n := 2) (C := evd_229) (S := S_d24) (I := I_d24) (fuel := 4000) hen ei_229 e2_fz (e2_fa ein_215 (e2_fa ein_216 (e2_fa ein_217 (e2_fa ein_225 (e2_fa ein_226 (e2_fa ein_227 (e2_fa ein_228 e2_fz))))))) (by decide) co_d24 fun M d _ hC hcall p e R s m args below meth c Q D cA A ads r0 ha hl0 => ?_
  have L_0 : e2_gdM M p l e R s m args below meth c Q D cA A ads r0 28 al_d24_0 [] E_d24_0 h_d24_0 := by
    refine e2_indL (u := 4) (j := 5) (lo := 2147483648) (hi := 2147483656) (b := 4) (dd := 0) hl0 (by decide) rfl rfl (Or.inr ⟨rfl, rfl⟩) rfl ci_d24_0 cj_d24_0 ?_
    intro r_0 k_0 hk_0 hp_0 hs_0 hn_0
    have hl_0 : r_0.length ≤ 5 := hs_0.len rfl
    have ha_0 := ha.ext hp_0
    exact e2_fromM hen ha_0 hcall (e2_cutA_ok (e2_fa (fun al st E h hc => hn_0 al st E h hc) e2_fz)) (hC [28]) (X := e2x_229) ex2_229 28 ck_d24_0
  have EN_0 := e2_entL (u := 4) (j := 5) (lo := 2147483648) (hi := 2147483656) hl0 rfl rfl rfl ci_d24_0 cj_d24_0 L_0
  exact e2_from hen ha hcall (e2_cutA_ok (e2_fa (fun al st E h hc => EN_0 al st E h hc) e2_fz)) (hC [28]) (X := e2x_229) ex2_229 0 ck_d24_e
/-! d25 X10_layFrom -/
def as_d25 : List ev_V := [(2, 83, 0), (0, 18, 0), (11, 2147483648, 2147483656), (11, 0, 4294967295)]
def E_d25 : e2_E := [(2147483648, 2147583648, 0, 0), (2147483648, 2147483656, 1, 0), (2147483648, 2147483688, 2, 0), (2147483648, 2147483688, 3, 0)]
noncomputable def f_d25 : ev_H := (dn453 : e2_Q8)
noncomputable def q_d25_0 : ev_H := (dn453 : e2_Q8)
noncomputable def rs_d25 : e2_Rs := [((9, 0, 0), q_d25_0)]
noncomputable def s_d25 : e2_Sm := (229, as_d25, E_d25, f_d25, rs_d25)
noncomputable def S_d25 : List e2_Sm := []
noncomputable def I_d25 : List e2_In := [(215, 2, e2x_215), (216, 1, e2x_216), (217, 1, e2x_217), (225, 5, e2x_225), (226, 3, e2x_226), (227, 2, e2x_227), (228, 3, e2x_228)]
set_option maxRecDepth 1000000 in
theorem co_d25 : e2_okSB E_d25.length as_d25 f_d25 rs_d25 = true := by decide +kernel
def al_d25_0 : List ev_V := [(2, 83, 0), (0, 18, 0), (11, 2147483648, 2147483656), (11, 0, 4294967295), (11, 2147483810, 2147483818), (1, 4, 4294967296), (9, 0, 0), (9, 0, 0)]
def E_d25_0 : e2_E := [(2147483648, 2147583648, 0, 0), (2147483648, 2147483656, 1, 0), (2147483648, 2147483688, 2, 0), (2147483648, 2147483688, 3, 0), (2147483648, 2147483656, 4, 0)]
noncomputable def h_d25_0 : ev_H := (dn453 : e2_Q8)
noncomputable def cl_d25_e : List (Nat × e2_S) := [(28, e2_cutL (al_d25_0.set 5 (11, 2147483648, 2147483656)) 4 (E_d25_0.take 4) h_d25_0)]
set_option maxRecDepth 1000000 in
theorem ck_d25_e : e2_run (e2_cal S_d25 I_d25 4000 2) (e2_fin rs_d25) e2x_229 (e2_bpL cl_d25_e) (e2_cutA cl_d25_e) 4000 (e2_seek e2x_229 0) (e2_al 8 as_d25) [] E_d25 f_d25 = true := by decide +kernel
noncomputable def cl_d25_0 : List (Nat × e2_S) := [(28, e2_cutL (al_d25_0.set 5 (13, 12, 2147483656)) 4 (E_d25_0.take 4) h_d25_0)]
set_option maxRecDepth 1000000 in
theorem ck_d25_0 : e2_runM (e2_cal S_d25 I_d25 4000 2) (e2_fin rs_d25) e2x_229 (e2_bpL cl_d25_0) (e2_cutA cl_d25_0) 4000 (e2_seek e2x_229 28) al_d25_0 [] E_d25_0 h_d25_0 = true := by decide +kernel
set_option maxRecDepth 1000000 in
theorem ci_d25_0 : e2_idl 4 (al_d25_0.set 5 (9, 0, 0)) = true := by decide +kernel
set_option maxRecDepth 1000000 in
theorem cj_d25_0 : e2_idh 4 8 h_d25_0 = true := by decide +kernel
theorem cs_d25 (hen : en_ok) (l : Launch) : e2_smOk l 3 s_d25 := by
  refine e2_conG (H := 0) (n := 2) (C := evd_229) (S := S_d25) (I := I_d25) (fuel := 4000) hen ei_229 e2_fz (e2_fa ein_215 (e2_fa ein_216 (e2_fa ein_217 (e2_fa ein_225 (e2_fa ein_226 (e2_fa ein_227 (e2_fa ein_228 e2_fz))))))) (by decide) co_d25 fun M d _ hC hcall p e R s m args below meth c Q D cA A ads r0 ha hl0 => ?_
  have L_0 : e2_gdM M p l e R s m args below meth c Q D cA A ads r0 28 al_d25_0 [] E_d25_0 h_d25_0 := by
    refine e2_indL (u := 4) (j := 5) (lo := 2147483648) (hi := 2147483656) (b := 4) (dd := 0) hl0 (by decide) rfl rfl (Or.inr ⟨rfl, rfl⟩) rfl ci_d25_0 cj_d25_0 ?_
    intro r_0 k_0 hk_0 hp_0 hs_0 hn_0
    have hl_0 : r_0.length ≤ 5 := hs_0.len rfl
    have ha_0 := ha.ext hp_0
    exact e2_fromM hen ha_0 hcall (e2_cutA_ok (e2_fa (fun al st E h hc => hn_0 al st E h hc) e2_fz)) (hC [28]) (X := e2x_229) ex2_229 28 ck_d25_0
  have EN_0 := e2_entL (u := 4) (j := 5) (lo := 2147483648) (hi := 2147483656) hl0 rfl rfl rfl ci_d25_0 cj_d25_0 L_0
  exact e2_from hen ha hcall (e2_cutA_ok (e2_fa (fun al st E h hc => EN_0 al st E h hc) e2_fz)) (hC [28]) (X := e2x_229) ex2_229 0 ck_d25_e
