/-! CONTRACTS b, printed by a program -/
/-! b69 X10_clearBank -/
def as_b69 : List ev_V := [(2, 83, 0)]
def E_b69 : e2_E := [(2147483648, 2147583648, 0, 0), (2147483648, 2147483656, 1, 0)]
def bc147 : ev_C := (52, [(11, 2147483648, 2147483649), (11, 2147483648, 2147483649), (11, 2147483648, 2147483649), (11, 2147483648, 2147483649)])
def bn348 : e2_Q1 := (bc147, bc3)
def bn349 : e2_Q2 := (bn18, bn348)
def bn350 : e2_Q3 := (bn17, bn349)
def bc148 : ev_C := (50, [(1, 1, 4294967296), (11, 2147483648, 2147483656)])
def bn351 : e2_Q1 := (bc148, bc3)
def bn352 : e2_Q2 := (bn22, bn351)
def bn353 : e2_Q3 := (bn352, bn27)
def bn354 : e2_Q4 := (bn350, bn353)
def bn355 : e2_Q5 := (bn14, bn354)
def bn356 : e2_Q2 := (bn34, bn254)
def bn357 : e2_Q3 := (bn33, bn356)
def bn358 : e2_Q4 := (bn357, bn301)
def bn359 : e2_Q4 := (bn261, bn59)
def bn360 : e2_Q5 := (bn358, bn359)
def bn361 : e2_Q6 := (bn355, bn360)
def bc149 : ev_C := (50, [(11, 0, 4294967295), (11, 0, 4294967295)])
def bn362 : e2_Q1 := (bc149, bc3)
def bn363 : e2_Q2 := (bn85, bn362)
def bn364 : e2_Q3 := (bn363, bn90)
def bn365 : e2_Q4 := (bn84, bn364)
def bn366 : e2_Q5 := (bn77, bn365)
def bc150 : ev_C := (50, [(11, 2147483652, 2147483668), (11, 2147483652, 2147483668)])
def bn367 : e2_Q1 := (bc150, bc3)
def bn368 : e2_Q2 := (bn101, bn367)
def bn369 : e2_Q3 := (bn368, bn106)
def bn370 : e2_Q4 := (bn100, bn369)
def bn371 : e2_Q2 := (bn116, bn362)
def bn372 : e2_Q3 := (bn371, bn121)
def bn373 : e2_Q4 := (bn270, bn372)
def bn374 : e2_Q5 := (bn370, bn373)
def bn375 : e2_Q6 := (bn366, bn374)
def bn376 : e2_Q7 := (bn361, bn375)
def bn377 : e2_Q2 := (bn149, bn362)
def bn378 : e2_Q3 := (bn377, bn154)
def bn379 : e2_Q4 := (bn148, bn378)
def bn380 : e2_Q5 := (bn141, bn379)
def bc151 : ev_C := (50, [(11, 2147483648, 2147484647), (11, 2147483648, 2147484647)])
def bn381 : e2_Q1 := (bc151, bc3)
def bn382 : e2_Q2 := (bn179, bn381)
def bn383 : e2_Q3 := (bn382, bn184)
def bn384 : e2_Q4 := (bn282, bn383)
def bn385 : e2_Q5 := (bn337, bn384)
def bn386 : e2_Q6 := (bn380, bn385)
def bc152 : ev_C := (10, [(0, 0, 0), (2, 88, 0), (2, 115, 0), (2, 114, 0), (2, 86, 0), (2, 112, 0), (11, 2147483648, 2147483688), (2, 118, 0), (2, 120, 0), (2, 131, 0), (2, 91, 0), (11, 2147483648, 2147483668), (2, 123, 0), (0, 1, 0), (11, 2147483648, 2147485248), (2, 87, 0), (2, 84, 0), (2, 122, 0), (2, 100, 0), (2, 132, 0), (11, 2147483648, 2147483668), (11, 2147483648, 2147485248), (1, 0, 4294967296), (0, 0, 0), (11, 2147483648, 2147485248), (2, 93, 0), (2, 104, 0), (11, 2147483648, 2147483678), (2, 89, 0), (2, 92, 0), (2, 119, 0), (2, 90, 0), (2, 94, 0), (2, 103, 0), (11, 2147483648, 2147483688), (11, 2147483648, 2147549184), (11, 0, 4294967295), (11, 2147483648, 2147485249), (11, 2147483648, 2147483653), (11, 2147483648, 2147483668), (2, 85, 0), (11, 0, 4294967295), (5, 0, 0), (2, 95, 0), (2, 96, 0), (2, 97, 0), (2, 98, 0), (2, 99, 0), (2, 101, 0), (2, 102, 0), (2, 105, 0), (2, 106, 0), (2, 107, 0), (2, 108, 0), (2, 109, 0), (2, 110, 0), (2, 111, 0), (11, 2147483648, 2147484768), (11, 2147482048, 2147483655), (11, 2147483648, 2147483738), (11, 2147483648, 2147483678), (11, 0, 4294967295), (11, 0, 4294967295), (11, 0, 4294967295), (11, 0, 4294967295), (11, 0, 4294967295), (2, 113, 0), (2, 116, 0), (2, 117, 0), (2, 121, 0), (11, 0, 4294967295), (11, 0, 4294967295), (2, 124, 0), (2, 125, 0), (11, 0, 4294967295), (2, 126, 0), (2, 127, 0), (2, 128, 0), (2, 129, 0), (2, 130, 0)])
def bn387 : e2_Q1 := (bc152, bc3)
def bn388 : e2_Q2 := (bn196, bn387)
def bn389 : e2_Q3 := (bn388, bn201)
def bn390 : e2_Q4 := (bn195, bn389)
def bn391 : e2_Q2 := (bn211, bn362)
def bn392 : e2_Q3 := (bn391, bn216)
def bn393 : e2_Q4 := (bn288, bn392)
def bn394 : e2_Q5 := (bn390, bn393)
def bc153 : ev_C := (52, [(11, 2147483648, 2147483649), (11, 2147483648, 2147483649)])
def bn395 : e2_Q1 := (bc153, bc3)
def bn396 : e2_Q2 := (bn223, bn395)
def bn397 : e2_Q3 := (bn222, bn396)
def bc154 : ev_C := (50, [(11, 2147483648, 2147483652), (11, 2147483648, 2147483652)])
def bn398 : e2_Q1 := (bc154, bc3)
def bn399 : e2_Q2 := (bn227, bn398)
def bn400 : e2_Q3 := (bn399, bn232)
def bn401 : e2_Q4 := (bn397, bn400)
def bn402 : e2_Q5 := (bn401, bn249)
def bn403 : e2_Q6 := (bn394, bn402)
def bn404 : e2_Q7 := (bn386, bn403)
def bn405 : e2_Q8 := (bn376, bn404)
noncomputable def f_b69 : ev_H := (bn405 : e2_Q8)
def bc155 : ev_C := (50, [(1, 1, 4294967296), (0, 0, 0)])
def bn406 : e2_Q1 := (bc155, bc3)
def bn407 : e2_Q2 := (bn22, bn406)
def bn408 : e2_Q3 := (bn407, bn27)
def bn409 : e2_Q4 := (bn350, bn408)
def bn410 : e2_Q5 := (bn14, bn409)
def bn411 : e2_Q6 := (bn410, bn360)
def bn412 : e2_Q7 := (bn411, bn375)
def bc156 : ev_C := (50, [(11, 2147483648, 2147483652), (11, 2147483648, 2147483651)])
def bn413 : e2_Q1 := (bc156, bc3)
def bn414 : e2_Q2 := (bn227, bn413)
def bn415 : e2_Q3 := (bn414, bn232)
def bn416 : e2_Q4 := (bn397, bn415)
def bn417 : e2_Q5 := (bn416, bn249)
def bn418 : e2_Q6 := (bn394, bn417)
def bn419 : e2_Q7 := (bn386, bn418)
def bn420 : e2_Q8 := (bn412, bn419)
noncomputable def q_b69_0 : ev_H := (bn420 : e2_Q8)
noncomputable def rs_b69 : e2_Rs := [((9, 0, 0), q_b69_0)]
noncomputable def s_b69 : e2_Sm := (14, as_b69, E_b69, f_b69, rs_b69)
noncomputable def S_b69 : List e2_Sm := []
noncomputable def I_b69 : List e2_In := []
set_option maxRecDepth 1000000 in
theorem co_b69 : e2_okSB E_b69.length as_b69 f_b69 rs_b69 = true := by decide +kernel
def al_b69_0 : List ev_V := [(2, 83, 0), (1, 2, 4294967296)]
def E_b69_0 : e2_E := [(2147483648, 2147583648, 0, 0), (2147483648, 2147483656, 1, 0), (2147483648, 2147483656, 2, 0)]
noncomputable def h_b69_0 : ev_H := (bn420 : e2_Q8)
noncomputable def cl_b69_e : List (Nat × e2_S) := [(129, e2_cutL (al_b69_0.set 1 (11, 2147483648, 2147483656)) 2 (E_b69_0.take 2) h_b69_0)]
set_option maxRecDepth 1000000 in
theorem ck_b69_e : e2_run (e2_cal S_b69 I_b69 4000 0) (e2_fin rs_b69) e2x_14 (e2_bpL cl_b69_e) (e2_cutA cl_b69_e) 4000 (e2_seek e2x_14 0) (e2_al 2 as_b69) [] E_b69 f_b69 = true := by decide +kernel
noncomputable def cl_b69_0 : List (Nat × e2_S) := [(129, e2_cutL (al_b69_0.set 1 (13, 10, 2147483656)) 2 (E_b69_0.take 2) h_b69_0)]
set_option maxRecDepth 1000000 in
theorem ck_b69_0 : e2_runM (e2_cal S_b69 I_b69 4000 0) (e2_fin rs_b69) e2x_14 (e2_bpL cl_b69_0) (e2_cutA cl_b69_0) 4000 (e2_seek e2x_14 129) al_b69_0 [] E_b69_0 h_b69_0 = true := by decide +kernel
set_option maxRecDepth 1000000 in
theorem ci_b69_0 : e2_idl 2 (al_b69_0.set 1 (9, 0, 0)) = true := by decide +kernel
set_option maxRecDepth 1000000 in
theorem cj_b69_0 : e2_idh 2 8 h_b69_0 = true := by decide +kernel
theorem cs_b69 (hen : en_ok) (l : Launch) : e2_smOk l 1 s_b69 := by
  refine e2_conG (H := 0) (n := 0) (C := evd_14) (S := S_b69) (I := I_b69) (fuel := 4000) hen ei_14 e2_fz e2_fz (by decide) co_b69 fun M d _ hC hcall p e R s m args below meth c Q D cA A ads r0 ha hl0 => ?_
  have L_0 : e2_gdM M p l e R s m args below meth c Q D cA A ads r0 129 al_b69_0 [] E_b69_0 h_b69_0 := by
    refine e2_indL (u := 2) (j := 1) (lo := 2147483648) (hi := 2147483656) (b := 2) (dd := 0) hl0 (by decide) rfl rfl (Or.inr ⟨rfl, rfl⟩) rfl ci_b69_0 cj_b69_0 ?_
    intro r_0 k_0 hk_0 hp_0 hs_0 hn_0
    have hl_0 : r_0.length ≤ 3 := hs_0.len rfl
    have ha_0 := ha.ext hp_0
    exact e2_fromM hen ha_0 hcall (e2_cutA_ok (e2_fa (fun al st E h hc => hn_0 al st E h hc) e2_fz)) (hC []) (X := e2x_14) ex2_14 129 ck_b69_0
  have EN_0 := e2_entL (u := 2) (j := 1) (lo := 2147483648) (hi := 2147483656) hl0 rfl rfl rfl ci_b69_0 cj_b69_0 L_0
  exact e2_from hen ha hcall (e2_cutA_ok (e2_fa (fun al st E h hc => EN_0 al st E h hc) e2_fz)) (hC []) (X := e2x_14) ex2_14 0 ck_b69_e
/-! b70 X10_startAnew -/
def as_b70 : List ev_V := [(2, 83, 0)]
def E_b70 : e2_E := [(2147483648, 2147583648, 0, 0), (2147483648, 2147483656, 1, 0)]
def bc157 : ev_C := (56, [(0, 3, 0), (11, 2147483648, 2147483649)])
def bn421 : e2_Q1 := (bc18, bc157)
def bn422 : e2_Q2 := (bn421, bn32)
def bn423 : e2_Q3 := (bn422, bn36)
def bn424 : e2_Q4 := (bn423, bn301)
def bn425 : e2_Q5 := (bn424, bn265)
def bn426 : e2_Q6 := (bn298, bn425)
def bn427 : e2_Q7 := (bn426, bn273)
def bn428 : e2_Q6 := (bn157, bn385)
def bc158 : ev_C := (10, [(11, 2147483648, 2147483649), (2, 88, 0), (2, 115, 0), (2, 114, 0), (2, 86, 0), (2, 112, 0), (11, 2147483648, 2147483688), (2, 118, 0), (2, 120, 0), (2, 131, 0), (2, 91, 0), (11, 2147483648, 2147483668), (2, 123, 0), (0, 1, 0), (11, 2147483648, 2147485248), (2, 87, 0), (2, 84, 0), (2, 122, 0), (2, 100, 0), (2, 132, 0), (11, 2147483648, 2147483668), (11, 2147483648, 2147485248), (1, 0, 4294967296), (0, 0, 0), (11, 2147483648, 2147485248), (2, 93, 0), (2, 104, 0), (11, 2147483648, 2147483678), (2, 89, 0), (2, 92, 0), (2, 119, 0), (2, 90, 0), (2, 94, 0), (2, 103, 0), (11, 2147483648, 2147483688), (11, 2147483648, 2147549184), (11, 0, 4294967295), (11, 2147483648, 2147485249), (0, 0, 0), (11, 2147483648, 2147483668), (2, 85, 0), (11, 0, 4294967295), (5, 0, 0), (2, 95, 0), (2, 96, 0), (2, 97, 0), (2, 98, 0), (2, 99, 0), (2, 101, 0), (2, 102, 0), (2, 105, 0), (2, 106, 0), (2, 107, 0), (2, 108, 0), (2, 109, 0), (2, 110, 0), (2, 111, 0), (11, 2147483648, 2147484768), (11, 2147482048, 2147483655), (11, 2147483648, 2147483738), (11, 2147483648, 2147483678), (11, 0, 4294967295), (11, 0, 4294967295), (11, 0, 4294967295), (11, 0, 4294967295), (11, 0, 4294967295), (2, 113, 0), (2, 116, 0), (2, 117, 0), (2, 121, 0), (11, 0, 4294967295), (11, 0, 4294967295), (2, 124, 0), (2, 125, 0), (11, 0, 4294967295), (2, 126, 0), (2, 127, 0), (2, 128, 0), (2, 129, 0), (2, 130, 0)])
def bn429 : e2_Q1 := (bc158, bc3)
def bn430 : e2_Q2 := (bn196, bn429)
def bn431 : e2_Q3 := (bn430, bn201)
def bn432 : e2_Q4 := (bn195, bn431)
def bn433 : e2_Q5 := (bn432, bn289)
def bn434 : e2_Q4 := (bn226, bn415)
def bc159 : ev_C := (50, [(11, 0, 4294967295), (11, 0, 4294967295), (11, 0, 4294967295), (11, 0, 4294967295), (11, 0, 4294967295), (11, 0, 4294967295), (11, 0, 4294967295), (11, 0, 4294967295)])
def bn435 : e2_Q1 := (bc159, bc3)
def bn436 : e2_Q2 := (bn242, bn435)
def bn437 : e2_Q3 := (bn436, bn247)
def bn438 : e2_Q4 := (bn241, bn437)
def bn439 : e2_Q5 := (bn434, bn438)
def bn440 : e2_Q6 := (bn433, bn439)
def bn441 : e2_Q7 := (bn428, bn440)
def bn442 : e2_Q8 := (bn427, bn441)
noncomputable def f_b70 : ev_H := (bn442 : e2_Q8)
noncomputable def q_b70_0 : ev_H := (bn442 : e2_Q8)
noncomputable def rs_b70 : e2_Rs := [((9, 0, 0), q_b70_0)]
noncomputable def s_b70 : e2_Sm := (15, as_b70, E_b70, f_b70, rs_b70)
noncomputable def S_b70 : List e2_Sm := []
noncomputable def I_b70 : List e2_In := []
set_option maxRecDepth 1000000 in
theorem co_b70 : e2_okSB E_b70.length as_b70 f_b70 rs_b70 = true := by decide +kernel
def al_b70_0 : List ev_V := [(2, 83, 0), (1, 2, 4294967296)]
def E_b70_0 : e2_E := [(2147483648, 2147583648, 0, 0), (2147483648, 2147483656, 1, 0), (2147483648, 2147483651, 2, 0)]
noncomputable def h_b70_0 : ev_H := (bn442 : e2_Q8)
def al_b70_1 : List ev_V := [(2, 83, 0), (1, 2, 4294967296)]
def E_b70_1 : e2_E := [(2147483648, 2147583648, 0, 0), (2147483648, 2147483656, 1, 0), (2147483648, 2147483668, 2, 0)]
noncomputable def h_b70_1 : ev_H := (bn442 : e2_Q8)
def al_b70_2 : List ev_V := [(2, 83, 0), (1, 2, 4294967296)]
def E_b70_2 : e2_E := [(2147483648, 2147583648, 0, 0), (2147483648, 2147483656, 1, 0), (2147483648, 2147483652, 2, 0)]
noncomputable def h_b70_2 : ev_H := (bn442 : e2_Q8)
noncomputable def cl_b70_e : List (Nat × e2_S) := [(2, e2_cutL (al_b70_1.set 1 (11, 2147483648, 2147483668)) 2 (E_b70_1.take 2) h_b70_1)]
set_option maxRecDepth 1000000 in
theorem ck_b70_e : e2_run (e2_cal S_b70 I_b70 4000 0) (e2_fin rs_b70) e2x_15 (e2_bpL cl_b70_e) (e2_cutA cl_b70_e) 4000 (e2_seek e2x_15 0) (e2_al 2 as_b70) [] E_b70 f_b70 = true := by decide +kernel
noncomputable def cl_b70_0 : List (Nat × e2_S) := [(121, e2_cutL (al_b70_0.set 1 (13, 10, 2147483651)) 2 (E_b70_0.take 2) h_b70_0)]
set_option maxRecDepth 1000000 in
theorem ck_b70_0 : e2_runM (e2_cal S_b70 I_b70 4000 0) (e2_fin rs_b70) e2x_15 (e2_bpL cl_b70_0) (e2_cutA cl_b70_0) 4000 (e2_seek e2x_15 121) al_b70_0 [] E_b70_0 h_b70_0 = true := by decide +kernel
set_option maxRecDepth 1000000 in
theorem ci_b70_0 : e2_idl 2 (al_b70_0.set 1 (9, 0, 0)) = true := by decide +kernel
set_option maxRecDepth 1000000 in
theorem cj_b70_0 : e2_idh 2 8 h_b70_0 = true := by decide +kernel
noncomputable def cl_b70_1 : List (Nat × e2_S) := [(2, e2_cutL (al_b70_1.set 1 (13, 10, 2147483668)) 2 (E_b70_1.take 2) h_b70_1),
  (25, e2_cutL (al_b70_2.set 1 (11, 2147483648, 2147483652)) 2 (E_b70_2.take 2) h_b70_2)]
set_option maxRecDepth 1000000 in
theorem ck_b70_1 : e2_runM (e2_cal S_b70 I_b70 4000 0) (e2_fin rs_b70) e2x_15 (e2_bpL cl_b70_1) (e2_cutA cl_b70_1) 4000 (e2_seek e2x_15 2) al_b70_1 [] E_b70_1 h_b70_1 = true := by decide +kernel
set_option maxRecDepth 1000000 in
theorem ci_b70_1 : e2_idl 2 (al_b70_1.set 1 (9, 0, 0)) = true := by decide +kernel
set_option maxRecDepth 1000000 in
theorem cj_b70_1 : e2_idh 2 8 h_b70_1 = true := by decide +kernel
noncomputable def cl_b70_2 : List (Nat × e2_S) := [(121, e2_cutL (al_b70_0.set 1 (11, 2147483648, 2147483651)) 2 (E_b70_0.take 2) h_b70_0),
  (25, e2_cutL (al_b70_2.set 1 (13, 10, 2147483652)) 2 (E_b70_2.take 2) h_b70_2)]
set_option maxRecDepth 1000000 in
theorem ck_b70_2 : e2_runM (e2_cal S_b70 I_b70 4000 0) (e2_fin rs_b70) e2x_15 (e2_bpL cl_b70_2) (e2_cutA cl_b70_2) 4000 (e2_seek e2x_15 25) al_b70_2 [] E_b70_2 h_b70_2 = true := by decide +kernel
set_option maxRecDepth 1000000 in
theorem ci_b70_2 : e2_idl 2 (al_b70_2.set 1 (9, 0, 0)) = true := by decide +kernel
set_option maxRecDepth 1000000 in
theorem cj_b70_2 : e2_idh 2 8 h_b70_2 = true := by decide +kernel
theorem cs_b70 (hen : en_ok) (l : Launch) : e2_smOk l 1 s_b70 := by
  refine e2_conG (H := 0) (n := 0) (C := evd_15) (S := S_b70) (I := I_b70) (fuel := 4000) hen ei_15 e2_fz e2_fz (by decide) co_b70 fun M d _ hC hcall p e R s m args below meth c Q D cA A ads r0 ha hl0 => ?_
  have L_0 : e2_gdM M p l e R s m args below meth c Q D cA A ads r0 121 al_b70_0 [] E_b70_0 h_b70_0 := by
    refine e2_indL (u := 2) (j := 1) (lo := 2147483648) (hi := 2147483651) (b := 2) (dd := 0) hl0 (by decide) rfl rfl (Or.inr ⟨rfl, rfl⟩) rfl ci_b70_0 cj_b70_0 ?_
    intro r_0 k_0 hk_0 hp_0 hs_0 hn_0
    have hl_0 : r_0.length ≤ 3 := hs_0.len rfl
    have ha_0 := ha.ext hp_0
    exact e2_fromM hen ha_0 hcall (e2_cutA_ok (e2_fa (fun al st E h hc => hn_0 al st E h hc) e2_fz)) (hC []) (X := e2x_15) ex2_15 121 ck_b70_0
  have EN_0 := e2_entL (u := 2) (j := 1) (lo := 2147483648) (hi := 2147483651) hl0 rfl rfl rfl ci_b70_0 cj_b70_0 L_0
  have L_2 : e2_gdM M p l e R s m args below meth c Q D cA A ads r0 25 al_b70_2 [] E_b70_2 h_b70_2 := by
    refine e2_indL (u := 2) (j := 1) (lo := 2147483648) (hi := 2147483652) (b := 2) (dd := 0) hl0 (by decide) rfl rfl (Or.inr ⟨rfl, rfl⟩) rfl ci_b70_2 cj_b70_2 ?_
    intro r_2 k_2 hk_2 hp_2 hs_2 hn_2
    have hl_2 : r_2.length ≤ 3 := hs_2.len rfl
    have ha_2 := ha.ext hp_2
    exact e2_fromM hen ha_2 hcall (e2_cutA_ok (e2_fa (fun al st E h hc => (EN_0 al st E h hc).ext hp_2) (e2_fa (fun al st E h hc => hn_2 al st E h hc) e2_fz))) (hC []) (X := e2x_15) ex2_15 25 ck_b70_2
  have EN_2 := e2_entL (u := 2) (j := 1) (lo := 2147483648) (hi := 2147483652) hl0 rfl rfl rfl ci_b70_2 cj_b70_2 L_2
  have L_1 : e2_gdM M p l e R s m args below meth c Q D cA A ads r0 2 al_b70_1 [] E_b70_1 h_b70_1 := by
    refine e2_indL (u := 2) (j := 1) (lo := 2147483648) (hi := 2147483668) (b := 2) (dd := 0) hl0 (by decide) rfl rfl (Or.inr ⟨rfl, rfl⟩) rfl ci_b70_1 cj_b70_1 ?_
    intro r_1 k_1 hk_1 hp_1 hs_1 hn_1
    have hl_1 : r_1.length ≤ 3 := hs_1.len rfl
    have ha_1 := ha.ext hp_1
    exact e2_fromM hen ha_1 hcall (e2_cutA_ok (e2_fa (fun al st E h hc => hn_1 al st E h hc) (e2_fa (fun al st E h hc => (EN_2 al st E h hc).ext hp_1) e2_fz))) (hC []) (X := e2x_15) ex2_15 2 ck_b70_1
  have EN_1 := e2_entL (u := 2) (j := 1) (lo := 2147483648) (hi := 2147483668) hl0 rfl rfl rfl ci_b70_1 cj_b70_1 L_1
  exact e2_from hen ha hcall (e2_cutA_ok (e2_fa (fun al st E h hc => EN_1 al st E h hc) e2_fz)) (hC []) (X := e2x_15) ex2_15 0 ck_b70_e
/-! b71 X10_startAnew -/
def as_b71 : List ev_V := [(2, 83, 0)]
def E_b71 : e2_E := [(2147483648, 2147583648, 0, 0), (2147483648, 2147483656, 1, 0)]
def bn443 : e2_Q4 := (bn226, bn400)
def bn444 : e2_Q5 := (bn443, bn438)
def bn445 : e2_Q6 := (bn433, bn444)
def bn446 : e2_Q7 := (bn428, bn445)
def bn447 : e2_Q8 := (bn427, bn446)
noncomputable def f_b71 : ev_H := (bn447 : e2_Q8)
noncomputable def q_b71_0 : ev_H := (bn447 : e2_Q8)
noncomputable def rs_b71 : e2_Rs := [((9, 0, 0), q_b71_0)]
noncomputable def s_b71 : e2_Sm := (15, as_b71, E_b71, f_b71, rs_b71)
noncomputable def S_b71 : List e2_Sm := []
noncomputable def I_b71 : List e2_In := []
set_option maxRecDepth 1000000 in
theorem co_b71 : e2_okSB E_b71.length as_b71 f_b71 rs_b71 = true := by decide +kernel
def al_b71_0 : List ev_V := [(2, 83, 0), (1, 2, 4294967296)]
def E_b71_0 : e2_E := [(2147483648, 2147583648, 0, 0), (2147483648, 2147483656, 1, 0), (2147483648, 2147483651, 2, 0)]
noncomputable def h_b71_0 : ev_H := (bn447 : e2_Q8)
def al_b71_1 : List ev_V := [(2, 83, 0), (1, 2, 4294967296)]
def E_b71_1 : e2_E := [(2147483648, 2147583648, 0, 0), (2147483648, 2147483656, 1, 0), (2147483648, 2147483668, 2, 0)]
noncomputable def h_b71_1 : ev_H := (bn447 : e2_Q8)
def al_b71_2 : List ev_V := [(2, 83, 0), (1, 2, 4294967296)]
def E_b71_2 : e2_E := [(2147483648, 2147583648, 0, 0), (2147483648, 2147483656, 1, 0), (2147483648, 2147483652, 2, 0)]
noncomputable def h_b71_2 : ev_H := (bn447 : e2_Q8)
noncomputable def cl_b71_e : List (Nat × e2_S) := [(2, e2_cutL (al_b71_1.set 1 (11, 2147483648, 2147483668)) 2 (E_b71_1.take 2) h_b71_1)]
set_option maxRecDepth 1000000 in
theorem ck_b71_e : e2_run (e2_cal S_b71 I_b71 4000 0) (e2_fin rs_b71) e2x_15 (e2_bpL cl_b71_e) (e2_cutA cl_b71_e) 4000 (e2_seek e2x_15 0) (e2_al 2 as_b71) [] E_b71 f_b71 = true := by decide +kernel
noncomputable def cl_b71_0 : List (Nat × e2_S) := [(121, e2_cutL (al_b71_0.set 1 (13, 10, 2147483651)) 2 (E_b71_0.take 2) h_b71_0)]
set_option maxRecDepth 1000000 in
theorem ck_b71_0 : e2_runM (e2_cal S_b71 I_b71 4000 0) (e2_fin rs_b71) e2x_15 (e2_bpL cl_b71_0) (e2_cutA cl_b71_0) 4000 (e2_seek e2x_15 121) al_b71_0 [] E_b71_0 h_b71_0 = true := by decide +kernel
set_option maxRecDepth 1000000 in
theorem ci_b71_0 : e2_idl 2 (al_b71_0.set 1 (9, 0, 0)) = true := by decide +kernel
set_option maxRecDepth 1000000 in
theorem cj_b71_0 : e2_idh 2 8 h_b71_0 = true := by decide +kernel
noncomputable def cl_b71_1 : List (Nat × e2_S) := [(2, e2_cutL (al_b71_1.set 1 (13, 10, 2147483668)) 2 (E_b71_1.take 2) h_b71_1),
  (25, e2_cutL (al_b71_2.set 1 (11, 2147483648, 2147483652)) 2 (E_b71_2.take 2) h_b71_2)]
set_option maxRecDepth 1000000 in
theorem ck_b71_1 : e2_runM (e2_cal S_b71 I_b71 4000 0) (e2_fin rs_b71) e2x_15 (e2_bpL cl_b71_1) (e2_cutA cl_b71_1) 4000 (e2_seek e2x_15 2) al_b71_1 [] E_b71_1 h_b71_1 = true := by decide +kernel
set_option maxRecDepth 1000000 in
theorem ci_b71_1 : e2_idl 2 (al_b71_1.set 1 (9, 0, 0)) = true := by decide +kernel
set_option maxRecDepth 1000000 in
theorem cj_b71_1 : e2_idh 2 8 h_b71_1 = true := by decide +kernel
noncomputable def cl_b71_2 : List (Nat × e2_S) := [(121, e2_cutL (al_b71_0.set 1 (11, 2147483648, 2147483651)) 2 (E_b71_0.take 2) h_b71_0),
  (25, e2_cutL (al_b71_2.set 1 (13, 10, 2147483652)) 2 (E_b71_2.take 2) h_b71_2)]
set_option maxRecDepth 1000000 in
theorem ck_b71_2 : e2_runM (e2_cal S_b71 I_b71 4000 0) (e2_fin rs_b71) e2x_15 (e2_bpL cl_b71_2) (e2_cutA cl_b71_2) 4000 (e2_seek e2x_15 25) al_b71_2 [] E_b71_2 h_b71_2 = true := by decide +kernel
set_option maxRecDepth 1000000 in
theorem ci_b71_2 : e2_idl 2 (al_b71_2.set 1 (9, 0, 0)) = true := by decide +kernel
set_option maxRecDepth 1000000 in
theorem cj_b71_2 : e2_idh 2 8 h_b71_2 = true := by decide +kernel
theorem cs_b71 (hen : en_ok) (l : Launch) : e2_smOk l 1 s_b71 := by
  refine e2_conG (H := 0) (n := 0) (C := evd_15) (S := S_b71) (I := I_b71) (fuel := 4000) hen ei_15 e2_fz e2_fz (by decide) co_b71 fun M d _ hC hcall p e R s m args below meth c Q D cA A ads r0 ha hl0 => ?_
  have L_0 : e2_gdM M p l e R s m args below meth c Q D cA A ads r0 121 al_b71_0 [] E_b71_0 h_b71_0 := by
    refine e2_indL (u := 2) (j := 1) (lo := 2147483648) (hi := 2147483651) (b := 2) (dd := 0) hl0 (by decide) rfl rfl (Or.inr ⟨rfl, rfl⟩) rfl ci_b71_0 cj_b71_0 ?_
    intro r_0 k_0 hk_0 hp_0 hs_0 hn_0
    have hl_0 : r_0.length ≤ 3 := hs_0.len rfl
    have ha_0 := ha.ext hp_0
    exact e2_fromM hen ha_0 hcall (e2_cutA_ok (e2_fa (fun al st E h hc => hn_0 al st E h hc) e2_fz)) (hC []) (X := e2x_15) ex2_15 121 ck_b71_0
  have EN_0 := e2_entL (u := 2) (j := 1) (lo := 2147483648) (hi := 2147483651) hl0 rfl rfl rfl ci_b71_0 cj_b71_0 L_0
  have L_2 : e2_gdM M p l e R s m args below meth c Q D cA A ads r0 25 al_b71_2 [] E_b71_2 h_b71_2 := by
    refine e2_indL (u := 2) (j := 1) (lo := 2147483648) (hi := 2147483652) (b := 2) (dd := 0) hl0 (by decide) rfl rfl (Or.inr ⟨rfl, rfl⟩) rfl ci_b71_2 cj_b71_2 ?_
    intro r_2 k_2 hk_2 hp_2 hs_2 hn_2
    have hl_2 : r_2.length ≤ 3 := hs_2.len rfl
    have ha_2 := ha.ext hp_2
    exact e2_fromM hen ha_2 hcall (e2_cutA_ok (e2_fa (fun al st E h hc => (EN_0 al st E h hc).ext hp_2) (e2_fa (fun al st E h hc => hn_2 al st E h hc) e2_fz))) (hC []) (X := e2x_15) ex2_15 25 ck_b71_2
  have EN_2 := e2_entL (u := 2) (j := 1) (lo := 2147483648) (hi := 2147483652) hl0 rfl rfl rfl ci_b71_2 cj_b71_2 L_2
  have L_1 : e2_gdM M p l e R s m args below meth c Q D cA A ads r0 2 al_b71_1 [] E_b71_1 h_b71_1 := by
    refine e2_indL (u := 2) (j := 1) (lo := 2147483648) (hi := 2147483668) (b := 2) (dd := 0) hl0 (by decide) rfl rfl (Or.inr ⟨rfl, rfl⟩) rfl ci_b71_1 cj_b71_1 ?_
    intro r_1 k_1 hk_1 hp_1 hs_1 hn_1
    have hl_1 : r_1.length ≤ 3 := hs_1.len rfl
    have ha_1 := ha.ext hp_1
    exact e2_fromM hen ha_1 hcall (e2_cutA_ok (e2_fa (fun al st E h hc => hn_1 al st E h hc) (e2_fa (fun al st E h hc => (EN_2 al st E h hc).ext hp_1) e2_fz))) (hC []) (X := e2x_15) ex2_15 2 ck_b71_1
  have EN_1 := e2_entL (u := 2) (j := 1) (lo := 2147483648) (hi := 2147483668) hl0 rfl rfl rfl ci_b71_1 cj_b71_1 L_1
  exact e2_from hen ha hcall (e2_cutA_ok (e2_fa (fun al st E h hc => EN_1 al st E h hc) e2_fz)) (hC []) (X := e2x_15) ex2_15 0 ck_b71_e
/-! b72 X10_isKept -/
def as_b72 : List ev_V := [(5, 0, 0)]
def E_b72 : e2_E := [(2147483648, 2147583648, 0, 0), (2147483648, 2147483656, 1, 0)]
noncomputable def f_b72 : ev_H := (bn347 : e2_Q8)
noncomputable def q_b72_0 : ev_H := (bn347 : e2_Q8)
noncomputable def rs_b72 : e2_Rs := [((11, 2147483648, 2147483649), q_b72_0)]
noncomputable def s_b72 : e2_Sm := (175, as_b72, E_b72, f_b72, rs_b72)
noncomputable def S_b72 : List e2_Sm := []
noncomputable def I_b72 : List e2_In := []
set_option maxRecDepth 1000000 in
theorem ck_b72 : e2_run (e2_cal S_b72 I_b72 4000 0) (e2_fin rs_b72) e2x_175 (fun _ => false) (fun _ _ _ _ _ => false) 4000 (e2_seek e2x_175 0) (e2_al 3 as_b72) [] E_b72 f_b72 = true := by decide +kernel
set_option maxRecDepth 1000000 in
theorem co_b72 : e2_okSB E_b72.length as_b72 f_b72 rs_b72 = true := by decide +kernel
theorem cs_b72 (hen : en_ok) (l : Launch) : e2_smOk l 1 s_b72 := e2_con0 (H := 0) (n := 0) (C := evd_175) (S := S_b72) (I := I_b72) (fuel := 4000) [] hen ei_175 e2_fz e2_fz (by decide) co_b72 ex2_175 ck_b72
/-! b73 X10_goOn -/
def as_b73 : List ev_V := [(2, 83, 0)]
def E_b73 : e2_E := [(2147483648, 2147583648, 0, 0), (2147483648, 2147483656, 1, 0), (2147483648, 2147485249, 2, 0)]
def bn448 : e2_Q6 := (bn157, bn284)
def bn449 : e2_Q5 := (bn390, bn289)
def bn450 : e2_Q6 := (bn449, bn250)
def bn451 : e2_Q7 := (bn448, bn450)
def bn452 : e2_Q8 := (bn336, bn451)
noncomputable def f_b73 : ev_H := (bn452 : e2_Q8)
def bc160 : ev_C := (10, [(0, 0, 0), (2, 88, 0), (2, 115, 0), (2, 114, 0), (2, 86, 0), (2, 112, 0), (11, 2147483648, 2147483688), (2, 118, 0), (2, 120, 0), (2, 131, 0), (2, 91, 0), (11, 2147483648, 2147483668), (2, 123, 0), (0, 1, 0), (11, 2147483648, 2147485248), (2, 87, 0), (2, 84, 0), (2, 122, 0), (2, 100, 0), (2, 132, 0), (11, 2147483648, 2147483668), (11, 2147483648, 2147485248), (1, 0, 4294967296), (0, 0, 0), (11, 2147483648, 2147485248), (2, 93, 0), (2, 104, 0), (11, 2147483648, 2147483678), (2, 89, 0), (2, 92, 0), (2, 119, 0), (2, 90, 0), (2, 94, 0), (2, 103, 0), (11, 2147483648, 2147483688), (11, 2147483648, 2147549184), (11, 0, 4294967295), (11, 2147483648, 2147485249), (11, 2147483649, 2147483653), (11, 2147483648, 2147483668), (2, 85, 0), (11, 0, 4294967295), (5, 0, 0), (2, 95, 0), (2, 96, 0), (2, 97, 0), (2, 98, 0), (2, 99, 0), (2, 101, 0), (2, 102, 0), (2, 105, 0), (2, 106, 0), (2, 107, 0), (2, 108, 0), (2, 109, 0), (2, 110, 0), (2, 111, 0), (11, 2147483648, 2147484768), (11, 2147482048, 2147483655), (11, 2147483648, 2147483738), (11, 2147483648, 2147483678), (11, 0, 4294967295), (11, 0, 4294967295), (11, 0, 4294967295), (11, 0, 4294967295), (11, 0, 4294967295), (2, 113, 0), (2, 116, 0), (2, 117, 0), (2, 121, 0), (11, 0, 4294967295), (11, 0, 4294967295), (2, 124, 0), (2, 125, 0), (11, 0, 4294967295), (2, 126, 0), (2, 127, 0), (2, 128, 0), (2, 129, 0), (2, 130, 0)])
def bn453 : e2_Q1 := (bc160, bc3)
def bn454 : e2_Q2 := (bn196, bn453)
def bn455 : e2_Q3 := (bn454, bn201)
def bn456 : e2_Q4 := (bn195, bn455)
def bn457 : e2_Q5 := (bn456, bn289)
def bn458 : e2_Q6 := (bn457, bn250)
def bn459 : e2_Q7 := (bn448, bn458)
def bn460 : e2_Q8 := (bn336, bn459)
noncomputable def q_b73_0 : ev_H := (bn460 : e2_Q8)
def bc161 : ev_C := (10, [(0, 0, 0), (2, 88, 0), (2, 115, 0), (2, 114, 0), (2, 86, 0), (2, 112, 0), (11, 2147483648, 2147483688), (2, 118, 0), (2, 120, 0), (2, 131, 0), (2, 91, 0), (11, 2147483648, 2147483668), (2, 123, 0), (0, 1, 0), (11, 2147483648, 2147485248), (2, 87, 0), (2, 84, 0), (2, 122, 0), (2, 100, 0), (2, 132, 0), (11, 2147483648, 2147483668), (11, 2147483648, 2147485248), (1, 0, 4294967296), (0, 0, 0), (11, 2147483648, 2147485248), (2, 93, 0), (2, 104, 0), (11, 2147483648, 2147483678), (2, 89, 0), (2, 92, 0), (2, 119, 0), (2, 90, 0), (2, 94, 0), (2, 103, 0), (11, 2147483648, 2147483688), (11, 2147483648, 2147549184), (11, 0, 4294967295), (11, 2147483648, 2147485249), (0, 0, 0), (11, 2147483648, 2147483668), (2, 85, 0), (11, 0, 4294967295), (5, 0, 0), (2, 95, 0), (2, 96, 0), (2, 97, 0), (2, 98, 0), (2, 99, 0), (2, 101, 0), (2, 102, 0), (2, 105, 0), (2, 106, 0), (2, 107, 0), (2, 108, 0), (2, 109, 0), (2, 110, 0), (2, 111, 0), (11, 2147483648, 2147484768), (11, 2147482048, 2147483655), (11, 2147483648, 2147483738), (11, 2147483648, 2147483678), (11, 0, 4294967295), (11, 0, 4294967295), (11, 0, 4294967295), (11, 0, 4294967295), (11, 0, 4294967295), (2, 113, 0), (2, 116, 0), (2, 117, 0), (2, 121, 0), (11, 0, 4294967295), (11, 0, 4294967295), (2, 124, 0), (2, 125, 0), (11, 0, 4294967295), (2, 126, 0), (2, 127, 0), (2, 128, 0), (2, 129, 0), (2, 130, 0)])
def bn461 : e2_Q1 := (bc161, bc3)
def bn462 : e2_Q2 := (bn196, bn461)
def bn463 : e2_Q3 := (bn462, bn201)
def bn464 : e2_Q4 := (bn195, bn463)
def bn465 : e2_Q5 := (bn464, bn289)
def bn466 : e2_Q6 := (bn465, bn250)
def bn467 : e2_Q7 := (bn448, bn466)
def bn468 : e2_Q8 := (bn336, bn467)
noncomputable def q_b73_1 : ev_H := (bn468 : e2_Q8)
noncomputable def rs_b73 : e2_Rs := [((9, 0, 0), q_b73_0), ((9, 0, 0), q_b73_1)]
noncomputable def s_b73 : e2_Sm := (177, as_b73, E_b73, f_b73, rs_b73)
noncomputable def S_b73 : List e2_Sm := [s_b72]
noncomputable def I_b73 : List e2_In := [(170, 2, e2x_170), (171, 1, e2x_171), (172, 1, e2x_172), (176, 1, e2x_176)]
set_option maxRecDepth 1000000 in
theorem co_b73 : e2_okSB E_b73.length as_b73 f_b73 rs_b73 = true := by decide +kernel
def al_b73_0 : List ev_V := [(2, 83, 0), (11, 2147483745, 2147483770), (9, 0, 0)]
def E_b73_0 : e2_E := [(2147483648, 2147583648, 0, 0), (2147483648, 2147483656, 1, 0), (2147483648, 2147485249, 2, 0), (2147483649, 2147485248, 3, 0)]
def bc162 : ev_C := (10, [(0, 0, 0), (2, 88, 0), (2, 115, 0), (2, 114, 0), (2, 86, 0), (2, 112, 0), (11, 2147483648, 2147483688), (2, 118, 0), (2, 120, 0), (2, 131, 0), (2, 91, 0), (11, 2147483648, 2147483668), (2, 123, 0), (0, 1, 0), (11, 2147483648, 2147485248), (2, 87, 0), (2, 84, 0), (2, 122, 0), (2, 100, 0), (2, 132, 0), (11, 2147483648, 2147483668), (11, 2147483648, 2147485248), (1, 0, 4294967296), (0, 0, 0), (11, 2147483648, 2147485248), (2, 93, 0), (2, 104, 0), (11, 2147483648, 2147483678), (2, 89, 0), (2, 92, 0), (2, 119, 0), (2, 90, 0), (2, 94, 0), (2, 103, 0), (11, 2147483648, 2147483688), (11, 2147483648, 2147549184), (11, 0, 4294967295), (1, 3, 4294967296), (11, 2147483648, 2147483653), (11, 2147483648, 2147483668), (2, 85, 0), (11, 0, 4294967295), (5, 0, 0), (2, 95, 0), (2, 96, 0), (2, 97, 0), (2, 98, 0), (2, 99, 0), (2, 101, 0), (2, 102, 0), (2, 105, 0), (2, 106, 0), (2, 107, 0), (2, 108, 0), (2, 109, 0), (2, 110, 0), (2, 111, 0), (11, 2147483648, 2147484768), (11, 2147482048, 2147483655), (11, 2147483648, 2147483738), (11, 2147483648, 2147483678), (11, 0, 4294967295), (11, 0, 4294967295), (11, 0, 4294967295), (11, 0, 4294967295), (11, 0, 4294967295), (2, 113, 0), (2, 116, 0), (2, 117, 0), (2, 121, 0), (11, 0, 4294967295), (11, 0, 4294967295), (2, 124, 0), (2, 125, 0), (11, 0, 4294967295), (2, 126, 0), (2, 127, 0), (2, 128, 0), (2, 129, 0), (2, 130, 0)])
def bn469 : e2_Q1 := (bc162, bc3)
def bn470 : e2_Q2 := (bn196, bn469)
def bn471 : e2_Q3 := (bn470, bn201)
def bn472 : e2_Q4 := (bn195, bn471)
def bn473 : e2_Q5 := (bn472, bn289)
def bn474 : e2_Q6 := (bn473, bn250)
def bn475 : e2_Q7 := (bn448, bn474)
def bn476 : e2_Q8 := (bn336, bn475)
noncomputable def h_b73_0 : ev_H := (bn476 : e2_Q8)
def al_b73_1 : List ev_V := [(2, 83, 0), (11, 2147483745, 2147483770), (1, 3, 4294967296)]
def E_b73_1 : e2_E := [(2147483648, 2147583648, 0, 0), (2147483648, 2147483656, 1, 0), (2147483648, 2147485249, 2, 0), (2147483648, 2147485249, 3, 0)]
noncomputable def h_b73_1 : ev_H := (bn452 : e2_Q8)
def al_b73_2 : List ev_V := [(2, 83, 0), (11, 2147483696, 2147483705), (9, 0, 0)]
def E_b73_2 : e2_E := [(2147483648, 2147583648, 0, 0), (2147483648, 2147483656, 1, 0), (2147483648, 2147485249, 2, 0), (2147483648, 2147485248, 3, 0)]
noncomputable def h_b73_2 : ev_H := (bn476 : e2_Q8)
def al_b73_3 : List ev_V := [(2, 83, 0), (9, 0, 0), (9, 0, 0)]
def E_b73_3 : e2_E := [(2147483648, 2147583648, 0, 0), (2147483648, 2147483656, 1, 0), (2147483648, 2147485249, 2, 0), (2147483648, 2147485249, 3, 0)]
def bc163 : ev_C := (10, [(0, 0, 0), (2, 88, 0), (2, 115, 0), (2, 114, 0), (2, 86, 0), (2, 112, 0), (11, 2147483648, 2147483688), (2, 118, 0), (2, 120, 0), (2, 131, 0), (2, 91, 0), (11, 2147483648, 2147483668), (2, 123, 0), (0, 1, 0), (11, 2147483648, 2147485248), (2, 87, 0), (2, 84, 0), (2, 122, 0), (2, 100, 0), (2, 132, 0), (11, 2147483648, 2147483668), (11, 2147483648, 2147485248), (1, 0, 4294967296), (0, 0, 0), (1, 3, 4294967296), (2, 93, 0), (2, 104, 0), (11, 2147483648, 2147483678), (2, 89, 0), (2, 92, 0), (2, 119, 0), (2, 90, 0), (2, 94, 0), (2, 103, 0), (11, 2147483648, 2147483688), (11, 2147483648, 2147549184), (11, 0, 4294967295), (11, 2147483648, 2147485249), (11, 2147483648, 2147483653), (11, 2147483648, 2147483668), (2, 85, 0), (11, 0, 4294967295), (5, 0, 0), (2, 95, 0), (2, 96, 0), (2, 97, 0), (2, 98, 0), (2, 99, 0), (2, 101, 0), (2, 102, 0), (2, 105, 0), (2, 106, 0), (2, 107, 0), (2, 108, 0), (2, 109, 0), (2, 110, 0), (2, 111, 0), (11, 2147483648, 2147484768), (11, 2147482048, 2147483655), (11, 2147483648, 2147483738), (11, 2147483648, 2147483678), (11, 0, 4294967295), (11, 0, 4294967295), (11, 0, 4294967295), (11, 0, 4294967295), (11, 0, 4294967295), (2, 113, 0), (2, 116, 0), (2, 117, 0), (2, 121, 0), (11, 0, 4294967295), (11, 0, 4294967295), (2, 124, 0), (2, 125, 0), (11, 0, 4294967295), (2, 126, 0), (2, 127, 0), (2, 128, 0), (2, 129, 0), (2, 130, 0)])
def bn477 : e2_Q1 := (bc163, bc3)
def bn478 : e2_Q2 := (bn196, bn477)
def bn479 : e2_Q3 := (bn478, bn201)
def bn480 : e2_Q4 := (bn195, bn479)
def bn481 : e2_Q5 := (bn480, bn289)
def bn482 : e2_Q6 := (bn481, bn250)
def bn483 : e2_Q7 := (bn448, bn482)
def bn484 : e2_Q8 := (bn336, bn483)
noncomputable def h_b73_3 : ev_H := (bn484 : e2_Q8)
noncomputable def cl_b73_e : List (Nat × e2_S) := [(8, e2_cutL al_b73_3 3 (E_b73_3.take 3) (ev_hs h_b73_3 83 ((ev_hg h_b73_3 83).1, (ev_hg h_b73_3 83).2.set 24 (11, 2147483648, 2147485249))))]
set_option maxRecDepth 1000000 in
theorem ck_b73_e : e2_run (e2_cal S_b73 I_b73 4000 1) (e2_fin rs_b73) e2x_177 (e2_bpL cl_b73_e) (e2_cutA cl_b73_e) 4000 (e2_seek e2x_177 0) (e2_al 3 as_b73) [] E_b73 f_b73 = true := by decide +kernel
noncomputable def cl_b73_0 : List (Nat × e2_S) := [(119, e2_cutL al_b73_0 3 (E_b73_0.take 3) (ev_hs h_b73_0 83 ((ev_hg h_b73_0 83).1, (ev_hg h_b73_0 83).2.set 37 (13, 11, 2147485248)))),
  (156, e2_cutL (al_b73_1.set 2 (11, 2147483648, 2147485249)) 3 (E_b73_1.take 3) h_b73_1)]
set_option maxRecDepth 1000000 in
theorem ck_b73_0 : e2_runM (e2_cal S_b73 I_b73 4000 1) (e2_fin rs_b73) e2x_177 (e2_bpL cl_b73_0) (e2_cutA cl_b73_0) 4000 (e2_seek e2x_177 119) al_b73_0 [] E_b73_0 h_b73_0 = true := by decide +kernel
set_option maxRecDepth 1000000 in
theorem ci_b73_0 : e2_idl 3 al_b73_0 = true := by decide +kernel
set_option maxRecDepth 1000000 in
theorem cj_b73_0 : e2_idh 3 8 (ev_hs h_b73_0 83 ((ev_hg h_b73_0 83).1, (ev_hg h_b73_0 83).2.set 37 (9, 0, 0))) = true := by decide +kernel
set_option maxRecDepth 1000000 in
theorem cg_b73_0 : (ev_hg h_b73_0 83).1 < 50 ∧ (ev_hg h_b73_0 83).2[37]? = some (1, 3, 4294967296) := by decide +kernel
noncomputable def cl_b73_1 : List (Nat × e2_S) := [(156, e2_cutL (al_b73_1.set 2 (13, 11, 2147485249)) 3 (E_b73_1.take 3) h_b73_1)]
set_option maxRecDepth 1000000 in
theorem ck_b73_1 : e2_runM (e2_cal S_b73 I_b73 4000 1) (e2_fin rs_b73) e2x_177 (e2_bpL cl_b73_1) (e2_cutA cl_b73_1) 4000 (e2_seek e2x_177 156) al_b73_1 [] E_b73_1 h_b73_1 = true := by decide +kernel
set_option maxRecDepth 1000000 in
theorem ci_b73_1 : e2_idl 3 (al_b73_1.set 2 (9, 0, 0)) = true := by decide +kernel
set_option maxRecDepth 1000000 in
theorem cj_b73_1 : e2_idh 3 8 h_b73_1 = true := by decide +kernel
noncomputable def cl_b73_2 : List (Nat × e2_S) := [(259, e2_cutL al_b73_2 3 (E_b73_2.take 3) (ev_hs h_b73_2 83 ((ev_hg h_b73_2 83).1, (ev_hg h_b73_2 83).2.set 37 (13, 11, 2147485248))))]
set_option maxRecDepth 1000000 in
theorem ck_b73_2 : e2_runM (e2_cal S_b73 I_b73 4000 1) (e2_fin rs_b73) e2x_177 (e2_bpL cl_b73_2) (e2_cutA cl_b73_2) 4000 (e2_seek e2x_177 259) al_b73_2 [] E_b73_2 h_b73_2 = true := by decide +kernel
set_option maxRecDepth 1000000 in
theorem ci_b73_2 : e2_idl 3 al_b73_2 = true := by decide +kernel
set_option maxRecDepth 1000000 in
theorem cj_b73_2 : e2_idh 3 8 (ev_hs h_b73_2 83 ((ev_hg h_b73_2 83).1, (ev_hg h_b73_2 83).2.set 37 (9, 0, 0))) = true := by decide +kernel
set_option maxRecDepth 1000000 in
theorem cg_b73_2 : (ev_hg h_b73_2 83).1 < 50 ∧ (ev_hg h_b73_2 83).2[37]? = some (1, 3, 4294967296) := by decide +kernel
noncomputable def cl_b73_3 : List (Nat × e2_S) := [(119, e2_cutL al_b73_0 3 (E_b73_0.take 3) (ev_hs h_b73_0 83 ((ev_hg h_b73_0 83).1, (ev_hg h_b73_0 83).2.set 37 (11, 2147483649, 2147485248)))),
  (259, e2_cutL al_b73_2 3 (E_b73_2.take 3) (ev_hs h_b73_2 83 ((ev_hg h_b73_2 83).1, (ev_hg h_b73_2 83).2.set 37 (11, 2147483648, 2147485248)))),
  (8, e2_cutL al_b73_3 3 (E_b73_3.take 3) (ev_hs h_b73_3 83 ((ev_hg h_b73_3 83).1, (ev_hg h_b73_3 83).2.set 24 (13, 11, 2147485249))))]
set_option maxRecDepth 1000000 in
theorem ck_b73_3 : e2_runM (e2_cal S_b73 I_b73 4000 1) (e2_fin rs_b73) e2x_177 (e2_bpL cl_b73_3) (e2_cutA cl_b73_3) 4000 (e2_seek e2x_177 8) al_b73_3 [] E_b73_3 h_b73_3 = true := by decide +kernel
set_option maxRecDepth 1000000 in
theorem ci_b73_3 : e2_idl 3 al_b73_3 = true := by decide +kernel
set_option maxRecDepth 1000000 in
theorem cj_b73_3 : e2_idh 3 8 (ev_hs h_b73_3 83 ((ev_hg h_b73_3 83).1, (ev_hg h_b73_3 83).2.set 24 (9, 0, 0))) = true := by decide +kernel
set_option maxRecDepth 1000000 in
theorem cg_b73_3 : (ev_hg h_b73_3 83).1 < 50 ∧ (ev_hg h_b73_3 83).2[24]? = some (1, 3, 4294967296) := by decide +kernel
theorem cs_b73 (hen : en_ok) (l : Launch) : e2_smOk l 3 s_b73 := by
  refine e2_conG (H := 1) (n := 1) (C := evd_177) (S := S_b73) (I := I_b73) (fuel := 4000) hen ei_177 (e2_fa (cs_b72 hen l) e2_fz) (e2_fa ein_170 (e2_fa ein_171 (e2_fa ein_172 (e2_fa ein_176 e2_fz)))) (by decide) co_b73 fun M d _ hC hcall p e R s m args below meth c Q D cA A ads r0 ha hl0 => ?_
  have L_2 : e2_gdM M p l e R s m args below meth c Q D cA A ads r0 259 al_b73_2 [] E_b73_2 h_b73_2 := by
    refine e2_indH (u := 3) (a := 83) (j := 37) (lo := 2147483648) (hi := 2147485248) (b := 3) (dd := 0) hl0 (by decide) rfl rfl (Or.inr ⟨rfl, rfl⟩) (by decide) cg_b73_2.1 cg_b73_2.2 ci_b73_2 cj_b73_2 rfl ?_
    intro r_2 k_2 hk_2 hp_2 hs_2 hn_2
    have hl_2 : r_2.length ≤ 4 := hs_2.len rfl
    have ha_2 := ha.ext hp_2
    exact e2_fromM hen ha_2 hcall (e2_cutA_ok (e2_fa (fun al st E h hc => hn_2 al st E h hc) e2_fz)) (hC []) (X := e2x_177) ex2_177 259 ck_b73_2
  have EN_2 := e2_entH (u := 3) (a := 83) (j := 37) (lo := 2147483648) (hi := 2147485248) hl0 rfl rfl (by decide) cg_b73_2.1 cg_b73_2.2 ci_b73_2 cj_b73_2 rfl L_2
  have L_1 : e2_gdM M p l e R s m args below meth c Q D cA A ads r0 156 al_b73_1 [] E_b73_1 h_b73_1 := by
    refine e2_indL (u := 3) (j := 2) (lo := 2147483648) (hi := 2147485249) (b := 3) (dd := 0) hl0 (by decide) rfl rfl (Or.inr ⟨rfl, rfl⟩) rfl ci_b73_1 cj_b73_1 ?_
    intro r_1 k_1 hk_1 hp_1 hs_1 hn_1
    have hl_1 : r_1.length ≤ 4 := hs_1.len rfl
    have ha_1 := ha.ext hp_1
    exact e2_fromM hen ha_1 hcall (e2_cutA_ok (e2_fa (fun al st E h hc => hn_1 al st E h hc) e2_fz)) (hC []) (X := e2x_177) ex2_177 156 ck_b73_1
  have EN_1 := e2_entL (u := 3) (j := 2) (lo := 2147483648) (hi := 2147485249) hl0 rfl rfl rfl ci_b73_1 cj_b73_1 L_1
  have L_0 : e2_gdM M p l e R s m args below meth c Q D cA A ads r0 119 al_b73_0 [] E_b73_0 h_b73_0 := by
    refine e2_indH (u := 3) (a := 83) (j := 37) (lo := 2147483649) (hi := 2147485248) (b := 3) (dd := 0) hl0 (by decide) rfl rfl (Or.inr ⟨rfl, rfl⟩) (by decide) cg_b73_0.1 cg_b73_0.2 ci_b73_0 cj_b73_0 rfl ?_
    intro r_0 k_0 hk_0 hp_0 hs_0 hn_0
    have hl_0 : r_0.length ≤ 4 := hs_0.len rfl
    have ha_0 := ha.ext hp_0
    exact e2_fromM hen ha_0 hcall (e2_cutA_ok (e2_fa (fun al st E h hc => hn_0 al st E h hc) (e2_fa (fun al st E h hc => (EN_1 al st E h hc).ext hp_0) e2_fz))) (hC []) (X := e2x_177) ex2_177 119 ck_b73_0
  have EN_0 := e2_entH (u := 3) (a := 83) (j := 37) (lo := 2147483649) (hi := 2147485248) hl0 rfl rfl (by decide) cg_b73_0.1 cg_b73_0.2 ci_b73_0 cj_b73_0 rfl L_0
  have L_3 : e2_gdM M p l e R s m args below meth c Q D cA A ads r0 8 al_b73_3 [] E_b73_3 h_b73_3 := by
    refine e2_indH (u := 3) (a := 83) (j := 24) (lo := 2147483648) (hi := 2147485249) (b := 3) (dd := 0) hl0 (by decide) rfl rfl (Or.inr ⟨rfl, rfl⟩) (by decide) cg_b73_3.1 cg_b73_3.2 ci_b73_3 cj_b73_3 rfl ?_
    intro r_3 k_3 hk_3 hp_3 hs_3 hn_3
    have hl_3 : r_3.length ≤ 4 := hs_3.len rfl
    have ha_3 := ha.ext hp_3
    exact e2_fromM hen ha_3 hcall (e2_cutA_ok (e2_fa (fun al st E h hc => (EN_0 al st E h hc).ext hp_3) (e2_fa (fun al st E h hc => (EN_2 al st E h hc).ext hp_3) (e2_fa (fun al st E h hc => hn_3 al st E h hc) e2_fz)))) (hC []) (X := e2x_177) ex2_177 8 ck_b73_3
  have EN_3 := e2_entH (u := 3) (a := 83) (j := 24) (lo := 2147483648) (hi := 2147485249) hl0 rfl rfl (by decide) cg_b73_3.1 cg_b73_3.2 ci_b73_3 cj_b73_3 rfl L_3
  exact e2_from hen ha hcall (e2_cutA_ok (e2_fa (fun al st E h hc => EN_3 al st E h hc) e2_fz)) (hC []) (X := e2x_177) ex2_177 0 ck_b73_e
/-! b74 X10_goOn -/
def as_b74 : List ev_V := [(2, 83, 0)]
def E_b74 : e2_E := [(2147483648, 2147583648, 0, 0), (2147483648, 2147483656, 1, 0), (2147483648, 2147485249, 2, 0)]
def bc164 : ev_C := (10, [(0, 0, 0), (2, 88, 0), (2, 115, 0), (2, 114, 0), (2, 86, 0), (2, 112, 0), (11, 2147483648, 2147483688), (2, 118, 0), (2, 120, 0), (2, 131, 0), (2, 91, 0), (11, 2147483648, 2147483668), (2, 123, 0), (0, 1, 0), (11, 2147483648, 2147485248), (2, 87, 0), (2, 84, 0), (2, 122, 0), (2, 100, 0), (2, 132, 0), (11, 2147483648, 2147483668), (11, 2147483648, 2147485248), (1, 0, 4294967296), (0, 0, 0), (11, 2147483648, 2147485248), (2, 93, 0), (2, 104, 0), (11, 2147483648, 2147483678), (2, 89, 0), (2, 92, 0), (2, 119, 0), (2, 90, 0), (2, 94, 0), (2, 103, 0), (11, 2147483648, 2147483688), (11, 2147483648, 2147549184), (11, 0, 4294967295), (13, 2, 2147485249), (11, 2147483649, 2147483653), (11, 2147483648, 2147483668), (2, 85, 0), (11, 0, 4294967295), (5, 0, 0), (2, 95, 0), (2, 96, 0), (2, 97, 0), (2, 98, 0), (2, 99, 0), (2, 101, 0), (2, 102, 0), (2, 105, 0), (2, 106, 0), (2, 107, 0), (2, 108, 0), (2, 109, 0), (2, 110, 0), (2, 111, 0), (11, 2147483648, 2147484768), (11, 2147482048, 2147483655), (11, 2147483648, 2147483738), (11, 2147483648, 2147483678), (11, 0, 4294967295), (11, 0, 4294967295), (11, 0, 4294967295), (11, 0, 4294967295), (11, 0, 4294967295), (2, 113, 0), (2, 116, 0), (2, 117, 0), (2, 121, 0), (11, 0, 4294967295), (11, 0, 4294967295), (2, 124, 0), (2, 125, 0), (11, 0, 4294967295), (2, 126, 0), (2, 127, 0), (2, 128, 0), (2, 129, 0), (2, 130, 0)])
def bn485 : e2_Q1 := (bc164, bc3)
def bn486 : e2_Q2 := (bn196, bn485)
def bn487 : e2_Q3 := (bn486, bn201)
def bn488 : e2_Q4 := (bn195, bn487)
def bn489 : e2_Q5 := (bn488, bn289)
def bn490 : e2_Q6 := (bn489, bn250)
def bn491 : e2_Q7 := (bn448, bn490)
def bn492 : e2_Q8 := (bn336, bn491)
noncomputable def f_b74 : ev_H := (bn492 : e2_Q8)
def bc165 : ev_C := (10, [(0, 0, 0), (2, 88, 0), (2, 115, 0), (2, 114, 0), (2, 86, 0), (2, 112, 0), (11, 2147483648, 2147483688), (2, 118, 0), (2, 120, 0), (2, 131, 0), (2, 91, 0), (11, 2147483648, 2147483668), (2, 123, 0), (0, 1, 0), (11, 2147483648, 2147485248), (2, 87, 0), (2, 84, 0), (2, 122, 0), (2, 100, 0), (2, 132, 0), (11, 2147483648, 2147483668), (11, 2147483648, 2147485248), (1, 0, 4294967296), (0, 0, 0), (13, 2, 2147485247), (2, 93, 0), (2, 104, 0), (11, 2147483648, 2147483678), (2, 89, 0), (2, 92, 0), (2, 119, 0), (2, 90, 0), (2, 94, 0), (2, 103, 0), (11, 2147483648, 2147483688), (11, 2147483648, 2147549184), (11, 0, 4294967295), (13, 2, 2147485248), (11, 2147483649, 2147483653), (11, 2147483648, 2147483668), (2, 85, 0), (11, 0, 4294967295), (5, 0, 0), (2, 95, 0), (2, 96, 0), (2, 97, 0), (2, 98, 0), (2, 99, 0), (2, 101, 0), (2, 102, 0), (2, 105, 0), (2, 106, 0), (2, 107, 0), (2, 108, 0), (2, 109, 0), (2, 110, 0), (2, 111, 0), (11, 2147483648, 2147484768), (11, 2147482048, 2147483655), (11, 2147483648, 2147483738), (11, 2147483648, 2147483678), (11, 0, 4294967295), (11, 0, 4294967295), (11, 0, 4294967295), (11, 0, 4294967295), (11, 0, 4294967295), (2, 113, 0), (2, 116, 0), (2, 117, 0), (2, 121, 0), (11, 0, 4294967295), (11, 0, 4294967295), (2, 124, 0), (2, 125, 0), (11, 0, 4294967295), (2, 126, 0), (2, 127, 0), (2, 128, 0), (2, 129, 0), (2, 130, 0)])
def bn493 : e2_Q1 := (bc165, bc3)
def bn494 : e2_Q2 := (bn196, bn493)
def bn495 : e2_Q3 := (bn494, bn201)
def bn496 : e2_Q4 := (bn195, bn495)
def bn497 : e2_Q5 := (bn496, bn289)
def bn498 : e2_Q6 := (bn497, bn250)
def bn499 : e2_Q7 := (bn448, bn498)
def bn500 : e2_Q8 := (bn336, bn499)
noncomputable def q_b74_0 : ev_H := (bn500 : e2_Q8)
def bc166 : ev_C := (10, [(0, 0, 0), (2, 88, 0), (2, 115, 0), (2, 114, 0), (2, 86, 0), (2, 112, 0), (11, 2147483648, 2147483688), (2, 118, 0), (2, 120, 0), (2, 131, 0), (2, 91, 0), (11, 2147483648, 2147483668), (2, 123, 0), (0, 1, 0), (11, 2147483648, 2147485248), (2, 87, 0), (2, 84, 0), (2, 122, 0), (2, 100, 0), (2, 132, 0), (11, 2147483648, 2147483668), (11, 2147483648, 2147485248), (1, 0, 4294967296), (0, 0, 0), (11, 2147483648, 2147485248), (2, 93, 0), (2, 104, 0), (11, 2147483648, 2147483678), (2, 89, 0), (2, 92, 0), (2, 119, 0), (2, 90, 0), (2, 94, 0), (2, 103, 0), (11, 2147483648, 2147483688), (11, 2147483648, 2147549184), (11, 0, 4294967295), (11, 2147483648, 2147485248), (0, 0, 0), (11, 2147483648, 2147483668), (2, 85, 0), (11, 0, 4294967295), (5, 0, 0), (2, 95, 0), (2, 96, 0), (2, 97, 0), (2, 98, 0), (2, 99, 0), (2, 101, 0), (2, 102, 0), (2, 105, 0), (2, 106, 0), (2, 107, 0), (2, 108, 0), (2, 109, 0), (2, 110, 0), (2, 111, 0), (11, 2147483648, 2147484768), (11, 2147482048, 2147483655), (11, 2147483648, 2147483738), (11, 2147483648, 2147483678), (11, 0, 4294967295), (11, 0, 4294967295), (11, 0, 4294967295), (11, 0, 4294967295), (11, 0, 4294967295), (2, 113, 0), (2, 116, 0), (2, 117, 0), (2, 121, 0), (11, 0, 4294967295), (11, 0, 4294967295), (2, 124, 0), (2, 125, 0), (11, 0, 4294967295), (2, 126, 0), (2, 127, 0), (2, 128, 0), (2, 129, 0), (2, 130, 0)])
def bn501 : e2_Q1 := (bc166, bc3)
def bn502 : e2_Q2 := (bn196, bn501)
def bn503 : e2_Q3 := (bn502, bn201)
def bn504 : e2_Q4 := (bn195, bn503)
def bn505 : e2_Q5 := (bn504, bn289)
def bn506 : e2_Q6 := (bn505, bn250)
def bn507 : e2_Q7 := (bn448, bn506)
def bn508 : e2_Q8 := (bn336, bn507)
noncomputable def q_b74_1 : ev_H := (bn508 : e2_Q8)
noncomputable def rs_b74 : e2_Rs := [((9, 0, 0), q_b74_0), ((9, 0, 0), q_b74_1)]
noncomputable def s_b74 : e2_Sm := (177, as_b74, E_b74, f_b74, rs_b74)
noncomputable def S_b74 : List e2_Sm := [s_b72]
noncomputable def I_b74 : List e2_In := [(170, 2, e2x_170), (171, 1, e2x_171), (172, 1, e2x_172), (176, 1, e2x_176)]
set_option maxRecDepth 1000000 in
theorem co_b74 : e2_okSB E_b74.length as_b74 f_b74 rs_b74 = true := by decide +kernel
def al_b74_0 : List ev_V := [(2, 83, 0), (11, 2147483745, 2147483770), (9, 0, 0)]
def E_b74_0 : e2_E := [(2147483648, 2147583648, 0, 0), (2147483648, 2147483656, 1, 0), (2147483648, 2147485249, 2, 0), (2147483649, 2147485248, 2, 1)]
def bc167 : ev_C := (10, [(0, 0, 0), (2, 88, 0), (2, 115, 0), (2, 114, 0), (2, 86, 0), (2, 112, 0), (11, 2147483648, 2147483688), (2, 118, 0), (2, 120, 0), (2, 131, 0), (2, 91, 0), (11, 2147483648, 2147483668), (2, 123, 0), (0, 1, 0), (11, 2147483648, 2147485248), (2, 87, 0), (2, 84, 0), (2, 122, 0), (2, 100, 0), (2, 132, 0), (11, 2147483648, 2147483668), (11, 2147483648, 2147485248), (1, 0, 4294967296), (0, 0, 0), (13, 2, 2147485247), (2, 93, 0), (2, 104, 0), (11, 2147483648, 2147483678), (2, 89, 0), (2, 92, 0), (2, 119, 0), (2, 90, 0), (2, 94, 0), (2, 103, 0), (11, 2147483648, 2147483688), (11, 2147483648, 2147549184), (11, 0, 4294967295), (1, 3, 4294967296), (11, 2147483649, 2147483653), (11, 2147483648, 2147483668), (2, 85, 0), (11, 0, 4294967295), (5, 0, 0), (2, 95, 0), (2, 96, 0), (2, 97, 0), (2, 98, 0), (2, 99, 0), (2, 101, 0), (2, 102, 0), (2, 105, 0), (2, 106, 0), (2, 107, 0), (2, 108, 0), (2, 109, 0), (2, 110, 0), (2, 111, 0), (11, 2147483648, 2147484768), (11, 2147482048, 2147483655), (11, 2147483648, 2147483738), (11, 2147483648, 2147483678), (11, 0, 4294967295), (11, 0, 4294967295), (11, 0, 4294967295), (11, 0, 4294967295), (11, 0, 4294967295), (2, 113, 0), (2, 116, 0), (2, 117, 0), (2, 121, 0), (11, 0, 4294967295), (11, 0, 4294967295), (2, 124, 0), (2, 125, 0), (11, 0, 4294967295), (2, 126, 0), (2, 127, 0), (2, 128, 0), (2, 129, 0), (2, 130, 0)])
def bn509 : e2_Q1 := (bc167, bc3)
def bn510 : e2_Q2 := (bn196, bn509)
def bn511 : e2_Q3 := (bn510, bn201)
def bn512 : e2_Q4 := (bn195, bn511)
def bn513 : e2_Q5 := (bn512, bn289)
def bn514 : e2_Q6 := (bn513, bn250)
def bn515 : e2_Q7 := (bn448, bn514)
def bn516 : e2_Q8 := (bn336, bn515)
noncomputable def h_b74_0 : ev_H := (bn516 : e2_Q8)
def al_b74_1 : List ev_V := [(2, 83, 0), (11, 2147483745, 2147483770), (1, 3, 4294967296)]
def E_b74_1 : e2_E := [(2147483648, 2147583648, 0, 0), (2147483648, 2147483656, 1, 0), (2147483648, 2147485249, 2, 0), (2147483648, 2147485248, 2, 0)]
def bc168 : ev_C := (10, [(0, 0, 0), (2, 88, 0), (2, 115, 0), (2, 114, 0), (2, 86, 0), (2, 112, 0), (11, 2147483648, 2147483688), (2, 118, 0), (2, 120, 0), (2, 131, 0), (2, 91, 0), (11, 2147483648, 2147483668), (2, 123, 0), (0, 1, 0), (11, 2147483648, 2147485248), (2, 87, 0), (2, 84, 0), (2, 122, 0), (2, 100, 0), (2, 132, 0), (11, 2147483648, 2147483668), (11, 2147483648, 2147485248), (1, 0, 4294967296), (0, 0, 0), (13, 2, 2147485247), (2, 93, 0), (2, 104, 0), (11, 2147483648, 2147483678), (2, 89, 0), (2, 92, 0), (2, 119, 0), (2, 90, 0), (2, 94, 0), (2, 103, 0), (11, 2147483648, 2147483688), (11, 2147483648, 2147549184), (11, 0, 4294967295), (13, 10, 2147485248), (11, 2147483649, 2147483653), (11, 2147483648, 2147483668), (2, 85, 0), (11, 0, 4294967295), (5, 0, 0), (2, 95, 0), (2, 96, 0), (2, 97, 0), (2, 98, 0), (2, 99, 0), (2, 101, 0), (2, 102, 0), (2, 105, 0), (2, 106, 0), (2, 107, 0), (2, 108, 0), (2, 109, 0), (2, 110, 0), (2, 111, 0), (11, 2147483648, 2147484768), (11, 2147482048, 2147483655), (11, 2147483648, 2147483738), (11, 2147483648, 2147483678), (11, 0, 4294967295), (11, 0, 4294967295), (11, 0, 4294967295), (11, 0, 4294967295), (11, 0, 4294967295), (2, 113, 0), (2, 116, 0), (2, 117, 0), (2, 121, 0), (11, 0, 4294967295), (11, 0, 4294967295), (2, 124, 0), (2, 125, 0), (11, 0, 4294967295), (2, 126, 0), (2, 127, 0), (2, 128, 0), (2, 129, 0), (2, 130, 0)])
def bn517 : e2_Q1 := (bc168, bc3)
def bn518 : e2_Q2 := (bn196, bn517)
def bn519 : e2_Q3 := (bn518, bn201)
def bn520 : e2_Q4 := (bn195, bn519)
def bn521 : e2_Q5 := (bn520, bn289)
def bn522 : e2_Q6 := (bn521, bn250)
def bn523 : e2_Q7 := (bn448, bn522)
def bn524 : e2_Q8 := (bn336, bn523)
noncomputable def h_b74_1 : ev_H := (bn524 : e2_Q8)
def al_b74_2 : List ev_V := [(2, 83, 0), (11, 2147483696, 2147483705), (9, 0, 0)]
def E_b74_2 : e2_E := [(2147483648, 2147583648, 0, 0), (2147483648, 2147483656, 1, 0), (2147483648, 2147485249, 2, 0), (2147483648, 2147485248, 2, 0)]
noncomputable def h_b74_2 : ev_H := (bn516 : e2_Q8)
def al_b74_3 : List ev_V := [(2, 83, 0), (9, 0, 0), (9, 0, 0)]
def E_b74_3 : e2_E := [(2147483648, 2147583648, 0, 0), (2147483648, 2147483656, 1, 0), (2147483648, 2147485249, 2, 0), (2147483648, 2147485249, 2, 0)]
def bc169 : ev_C := (10, [(0, 0, 0), (2, 88, 0), (2, 115, 0), (2, 114, 0), (2, 86, 0), (2, 112, 0), (11, 2147483648, 2147483688), (2, 118, 0), (2, 120, 0), (2, 131, 0), (2, 91, 0), (11, 2147483648, 2147483668), (2, 123, 0), (0, 1, 0), (11, 2147483648, 2147485248), (2, 87, 0), (2, 84, 0), (2, 122, 0), (2, 100, 0), (2, 132, 0), (11, 2147483648, 2147483668), (11, 2147483648, 2147485248), (1, 0, 4294967296), (0, 0, 0), (1, 3, 4294967296), (2, 93, 0), (2, 104, 0), (11, 2147483648, 2147483678), (2, 89, 0), (2, 92, 0), (2, 119, 0), (2, 90, 0), (2, 94, 0), (2, 103, 0), (11, 2147483648, 2147483688), (11, 2147483648, 2147549184), (11, 0, 4294967295), (13, 2, 2147485249), (11, 2147483649, 2147483653), (11, 2147483648, 2147483668), (2, 85, 0), (11, 0, 4294967295), (5, 0, 0), (2, 95, 0), (2, 96, 0), (2, 97, 0), (2, 98, 0), (2, 99, 0), (2, 101, 0), (2, 102, 0), (2, 105, 0), (2, 106, 0), (2, 107, 0), (2, 108, 0), (2, 109, 0), (2, 110, 0), (2, 111, 0), (11, 2147483648, 2147484768), (11, 2147482048, 2147483655), (11, 2147483648, 2147483738), (11, 2147483648, 2147483678), (11, 0, 4294967295), (11, 0, 4294967295), (11, 0, 4294967295), (11, 0, 4294967295), (11, 0, 4294967295), (2, 113, 0), (2, 116, 0), (2, 117, 0), (2, 121, 0), (11, 0, 4294967295), (11, 0, 4294967295), (2, 124, 0), (2, 125, 0), (11, 0, 4294967295), (2, 126, 0), (2, 127, 0), (2, 128, 0), (2, 129, 0), (2, 130, 0)])
def bn525 : e2_Q1 := (bc169, bc3)
def bn526 : e2_Q2 := (bn196, bn525)
def bn527 : e2_Q3 := (bn526, bn201)
def bn528 : e2_Q4 := (bn195, bn527)
def bn529 : e2_Q5 := (bn528, bn289)
def bn530 : e2_Q6 := (bn529, bn250)
def bn531 : e2_Q7 := (bn448, bn530)
def bn532 : e2_Q8 := (bn336, bn531)
noncomputable def h_b74_3 : ev_H := (bn532 : e2_Q8)
noncomputable def cl_b74_e : List (Nat × e2_S) := [(8, e2_cutL al_b74_3 3 (E_b74_3.take 3) (ev_hs h_b74_3 83 ((ev_hg h_b74_3 83).1, (ev_hg h_b74_3 83).2.set 24 (11, 2147483648, 2147485249))))]
set_option maxRecDepth 1000000 in
theorem ck_b74_e : e2_run (e2_cal S_b74 I_b74 4000 1) (e2_fin rs_b74) e2x_177 (e2_bpL cl_b74_e) (e2_cutA cl_b74_e) 4000 (e2_seek e2x_177 0) (e2_al 3 as_b74) [] E_b74 f_b74 = true := by decide +kernel
noncomputable def cl_b74_0 : List (Nat × e2_S) := [(119, e2_cutL al_b74_0 3 (E_b74_0.take 3) (ev_hs h_b74_0 83 ((ev_hg h_b74_0 83).1, (ev_hg h_b74_0 83).2.set 37 (13, 11, 2147485248)))),
  (156, e2_cutL (al_b74_1.set 2 (11, 2147483648, 2147485248)) 3 (E_b74_1.take 3) h_b74_1)]
set_option maxRecDepth 1000000 in
theorem ck_b74_0 : e2_runM (e2_cal S_b74 I_b74 4000 1) (e2_fin rs_b74) e2x_177 (e2_bpL cl_b74_0) (e2_cutA cl_b74_0) 4000 (e2_seek e2x_177 119) al_b74_0 [] E_b74_0 h_b74_0 = true := by decide +kernel
set_option maxRecDepth 1000000 in
theorem ci_b74_0 : e2_idl 3 al_b74_0 = true := by decide +kernel
set_option maxRecDepth 1000000 in
theorem cj_b74_0 : e2_idh 3 8 (ev_hs h_b74_0 83 ((ev_hg h_b74_0 83).1, (ev_hg h_b74_0 83).2.set 37 (9, 0, 0))) = true := by decide +kernel
set_option maxRecDepth 1000000 in
theorem cg_b74_0 : (ev_hg h_b74_0 83).1 < 50 ∧ (ev_hg h_b74_0 83).2[37]? = some (1, 3, 4294967296) := by decide +kernel
noncomputable def cl_b74_1 : List (Nat × e2_S) := [(156, e2_cutL (al_b74_1.set 2 (13, 11, 2147485248)) 3 (E_b74_1.take 3) h_b74_1)]
set_option maxRecDepth 1000000 in
theorem ck_b74_1 : e2_runM (e2_cal S_b74 I_b74 4000 1) (e2_fin rs_b74) e2x_177 (e2_bpL cl_b74_1) (e2_cutA cl_b74_1) 4000 (e2_seek e2x_177 156) al_b74_1 [] E_b74_1 h_b74_1 = true := by decide +kernel
set_option maxRecDepth 1000000 in
theorem ci_b74_1 : e2_idl 3 (al_b74_1.set 2 (9, 0, 0)) = true := by decide +kernel
set_option maxRecDepth 1000000 in
theorem cj_b74_1 : e2_idh 3 8 h_b74_1 = true := by decide +kernel
noncomputable def cl_b74_2 : List (Nat × e2_S) := [(259, e2_cutL al_b74_2 3 (E_b74_2.take 3) (ev_hs h_b74_2 83 ((ev_hg h_b74_2 83).1, (ev_hg h_b74_2 83).2.set 37 (13, 11, 2147485248))))]
set_option maxRecDepth 1000000 in
theorem ck_b74_2 : e2_runM (e2_cal S_b74 I_b74 4000 1) (e2_fin rs_b74) e2x_177 (e2_bpL cl_b74_2) (e2_cutA cl_b74_2) 4000 (e2_seek e2x_177 259) al_b74_2 [] E_b74_2 h_b74_2 = true := by decide +kernel
set_option maxRecDepth 1000000 in
theorem ci_b74_2 : e2_idl 3 al_b74_2 = true := by decide +kernel
set_option maxRecDepth 1000000 in
theorem cj_b74_2 : e2_idh 3 8 (ev_hs h_b74_2 83 ((ev_hg h_b74_2 83).1, (ev_hg h_b74_2 83).2.set 37 (9, 0, 0))) = true := by decide +kernel
set_option maxRecDepth 1000000 in
theorem cg_b74_2 : (ev_hg h_b74_2 83).1 < 50 ∧ (ev_hg h_b74_2 83).2[37]? = some (1, 3, 4294967296) := by decide +kernel
noncomputable def cl_b74_3 : List (Nat × e2_S) := [(119, e2_cutL al_b74_0 3 (E_b74_0.take 3) (ev_hs h_b74_0 83 ((ev_hg h_b74_0 83).1, (ev_hg h_b74_0 83).2.set 37 (11, 2147483649, 2147485248)))),
  (259, e2_cutL al_b74_2 3 (E_b74_2.take 3) (ev_hs h_b74_2 83 ((ev_hg h_b74_2 83).1, (ev_hg h_b74_2 83).2.set 37 (11, 2147483648, 2147485248)))),
  (8, e2_cutL al_b74_3 3 (E_b74_3.take 3) (ev_hs h_b74_3 83 ((ev_hg h_b74_3 83).1, (ev_hg h_b74_3 83).2.set 24 (13, 11, 2147485249))))]
set_option maxRecDepth 1000000 in
theorem ck_b74_3 : e2_runM (e2_cal S_b74 I_b74 4000 1) (e2_fin rs_b74) e2x_177 (e2_bpL cl_b74_3) (e2_cutA cl_b74_3) 4000 (e2_seek e2x_177 8) al_b74_3 [] E_b74_3 h_b74_3 = true := by decide +kernel
set_option maxRecDepth 1000000 in
theorem ci_b74_3 : e2_idl 3 al_b74_3 = true := by decide +kernel
set_option maxRecDepth 1000000 in
theorem cj_b74_3 : e2_idh 3 8 (ev_hs h_b74_3 83 ((ev_hg h_b74_3 83).1, (ev_hg h_b74_3 83).2.set 24 (9, 0, 0))) = true := by decide +kernel
set_option maxRecDepth 1000000 in
theorem cg_b74_3 : (ev_hg h_b74_3 83).1 < 50 ∧ (ev_hg h_b74_3 83).2[24]? = some (1, 3, 4294967296) := by decide +kernel
theorem cs_b74 (hen : en_ok) (l : Launch) : e2_smOk l 3 s_b74 := by
  refine e2_conG (H := 1) (n := 1) (C := evd_177) (S := S_b74) (I := I_b74) (fuel := 4000) hen ei_177 (e2_fa (cs_b72 hen l) e2_fz) (e2_fa ein_170 (e2_fa ein_171 (e2_fa ein_172 (e2_fa ein_176 e2_fz)))) (by decide) co_b74 fun M d _ hC hcall p e R s m args below meth c Q D cA A ads r0 ha hl0 => ?_
  have L_2 : e2_gdM M p l e R s m args below meth c Q D cA A ads r0 259 al_b74_2 [] E_b74_2 h_b74_2 := by
    refine e2_indH (u := 3) (a := 83) (j := 37) (lo := 2147483648) (hi := 2147485248) (b := 3) (dd := 0) hl0 (by decide) rfl rfl (Or.inr ⟨rfl, rfl⟩) (by decide) cg_b74_2.1 cg_b74_2.2 ci_b74_2 cj_b74_2 rfl ?_
    intro r_2 k_2 hk_2 hp_2 hs_2 hn_2
    have hl_2 : r_2.length ≤ 4 := hs_2.len rfl
    have ha_2 := ha.ext hp_2
    exact e2_fromM hen ha_2 hcall (e2_cutA_ok (e2_fa (fun al st E h hc => hn_2 al st E h hc) e2_fz)) (hC []) (X := e2x_177) ex2_177 259 ck_b74_2
  have EN_2 := e2_entH (u := 3) (a := 83) (j := 37) (lo := 2147483648) (hi := 2147485248) hl0 rfl rfl (by decide) cg_b74_2.1 cg_b74_2.2 ci_b74_2 cj_b74_2 rfl L_2
  have L_1 : e2_gdM M p l e R s m args below meth c Q D cA A ads r0 156 al_b74_1 [] E_b74_1 h_b74_1 := by
    refine e2_indL (u := 3) (j := 2) (lo := 2147483648) (hi := 2147485248) (b := 3) (dd := 0) hl0 (by decide) rfl rfl (Or.inr ⟨rfl, rfl⟩) rfl ci_b74_1 cj_b74_1 ?_
    intro r_1 k_1 hk_1 hp_1 hs_1 hn_1
    have hl_1 : r_1.length ≤ 4 := hs_1.len rfl
    have ha_1 := ha.ext hp_1
    exact e2_fromM hen ha_1 hcall (e2_cutA_ok (e2_fa (fun al st E h hc => hn_1 al st E h hc) e2_fz)) (hC []) (X := e2x_177) ex2_177 156 ck_b74_1
  have EN_1 := e2_entL (u := 3) (j := 2) (lo := 2147483648) (hi := 2147485248) hl0 rfl rfl rfl ci_b74_1 cj_b74_1 L_1
  have L_0 : e2_gdM M p l e R s m args below meth c Q D cA A ads r0 119 al_b74_0 [] E_b74_0 h_b74_0 := by
    refine e2_indH (u := 3) (a := 83) (j := 37) (lo := 2147483649) (hi := 2147485248) (b := 3) (dd := 0) hl0 (by decide) rfl rfl (Or.inr ⟨rfl, rfl⟩) (by decide) cg_b74_0.1 cg_b74_0.2 ci_b74_0 cj_b74_0 rfl ?_
    intro r_0 k_0 hk_0 hp_0 hs_0 hn_0
    have hl_0 : r_0.length ≤ 4 := hs_0.len rfl
    have ha_0 := ha.ext hp_0
    exact e2_fromM hen ha_0 hcall (e2_cutA_ok (e2_fa (fun al st E h hc => hn_0 al st E h hc) (e2_fa (fun al st E h hc => (EN_1 al st E h hc).ext hp_0) e2_fz))) (hC []) (X := e2x_177) ex2_177 119 ck_b74_0
  have EN_0 := e2_entH (u := 3) (a := 83) (j := 37) (lo := 2147483649) (hi := 2147485248) hl0 rfl rfl (by decide) cg_b74_0.1 cg_b74_0.2 ci_b74_0 cj_b74_0 rfl L_0
  have L_3 : e2_gdM M p l e R s m args below meth c Q D cA A ads r0 8 al_b74_3 [] E_b74_3 h_b74_3 := by
    refine e2_indH (u := 3) (a := 83) (j := 24) (lo := 2147483648) (hi := 2147485249) (b := 3) (dd := 0) hl0 (by decide) rfl rfl (Or.inr ⟨rfl, rfl⟩) (by decide) cg_b74_3.1 cg_b74_3.2 ci_b74_3 cj_b74_3 rfl ?_
    intro r_3 k_3 hk_3 hp_3 hs_3 hn_3
    have hl_3 : r_3.length ≤ 4 := hs_3.len rfl
    have ha_3 := ha.ext hp_3
    exact e2_fromM hen ha_3 hcall (e2_cutA_ok (e2_fa (fun al st E h hc => (EN_0 al st E h hc).ext hp_3) (e2_fa (fun al st E h hc => (EN_2 al st E h hc).ext hp_3) (e2_fa (fun al st E h hc => hn_3 al st E h hc) e2_fz)))) (hC []) (X := e2x_177) ex2_177 8 ck_b74_3
  have EN_3 := e2_entH (u := 3) (a := 83) (j := 24) (lo := 2147483648) (hi := 2147485249) hl0 rfl rfl (by decide) cg_b74_3.1 cg_b74_3.2 ci_b74_3 cj_b74_3 rfl L_3
  exact e2_from hen ha hcall (e2_cutA_ok (e2_fa (fun al st E h hc => EN_3 al st E h hc) e2_fz)) (hC []) (X := e2x_177) ex2_177 0 ck_b74_e
/-! b75 X10_goOn -/
def as_b75 : List ev_V := [(2, 83, 0)]
def E_b75 : e2_E := [(2147483648, 2147583648, 0, 0), (2147483648, 2147483656, 1, 0), (2147483648, 2147485249, 2, 0)]
noncomputable def f_b75 : ev_H := (bn460 : e2_Q8)
noncomputable def q_b75_0 : ev_H := (bn460 : e2_Q8)
noncomputable def q_b75_1 : ev_H := (bn468 : e2_Q8)
noncomputable def rs_b75 : e2_Rs := [((9, 0, 0), q_b75_0), ((9, 0, 0), q_b75_1)]
noncomputable def s_b75 : e2_Sm := (177, as_b75, E_b75, f_b75, rs_b75)
noncomputable def S_b75 : List e2_Sm := [s_b72]
noncomputable def I_b75 : List e2_In := [(170, 2, e2x_170), (171, 1, e2x_171), (172, 1, e2x_172), (176, 1, e2x_176)]
set_option maxRecDepth 1000000 in
theorem co_b75 : e2_okSB E_b75.length as_b75 f_b75 rs_b75 = true := by decide +kernel
def al_b75_0 : List ev_V := [(2, 83, 0), (11, 2147483745, 2147483770), (9, 0, 0)]
def E_b75_0 : e2_E := [(2147483648, 2147583648, 0, 0), (2147483648, 2147483656, 1, 0), (2147483648, 2147485249, 2, 0), (2147483649, 2147485248, 3, 0)]
def bc170 : ev_C := (10, [(0, 0, 0), (2, 88, 0), (2, 115, 0), (2, 114, 0), (2, 86, 0), (2, 112, 0), (11, 2147483648, 2147483688), (2, 118, 0), (2, 120, 0), (2, 131, 0), (2, 91, 0), (11, 2147483648, 2147483668), (2, 123, 0), (0, 1, 0), (11, 2147483648, 2147485248), (2, 87, 0), (2, 84, 0), (2, 122, 0), (2, 100, 0), (2, 132, 0), (11, 2147483648, 2147483668), (11, 2147483648, 2147485248), (1, 0, 4294967296), (0, 0, 0), (11, 2147483648, 2147485248), (2, 93, 0), (2, 104, 0), (11, 2147483648, 2147483678), (2, 89, 0), (2, 92, 0), (2, 119, 0), (2, 90, 0), (2, 94, 0), (2, 103, 0), (11, 2147483648, 2147483688), (11, 2147483648, 2147549184), (11, 0, 4294967295), (1, 3, 4294967296), (11, 2147483649, 2147483653), (11, 2147483648, 2147483668), (2, 85, 0), (11, 0, 4294967295), (5, 0, 0), (2, 95, 0), (2, 96, 0), (2, 97, 0), (2, 98, 0), (2, 99, 0), (2, 101, 0), (2, 102, 0), (2, 105, 0), (2, 106, 0), (2, 107, 0), (2, 108, 0), (2, 109, 0), (2, 110, 0), (2, 111, 0), (11, 2147483648, 2147484768), (11, 2147482048, 2147483655), (11, 2147483648, 2147483738), (11, 2147483648, 2147483678), (11, 0, 4294967295), (11, 0, 4294967295), (11, 0, 4294967295), (11, 0, 4294967295), (11, 0, 4294967295), (2, 113, 0), (2, 116, 0), (2, 117, 0), (2, 121, 0), (11, 0, 4294967295), (11, 0, 4294967295), (2, 124, 0), (2, 125, 0), (11, 0, 4294967295), (2, 126, 0), (2, 127, 0), (2, 128, 0), (2, 129, 0), (2, 130, 0)])
def bn533 : e2_Q1 := (bc170, bc3)
def bn534 : e2_Q2 := (bn196, bn533)
def bn535 : e2_Q3 := (bn534, bn201)
def bn536 : e2_Q4 := (bn195, bn535)
def bn537 : e2_Q5 := (bn536, bn289)
def bn538 : e2_Q6 := (bn537, bn250)
def bn539 : e2_Q7 := (bn448, bn538)
def bn540 : e2_Q8 := (bn336, bn539)
noncomputable def h_b75_0 : ev_H := (bn540 : e2_Q8)
def al_b75_1 : List ev_V := [(2, 83, 0), (11, 2147483745, 2147483770), (1, 3, 4294967296)]
def E_b75_1 : e2_E := [(2147483648, 2147583648, 0, 0), (2147483648, 2147483656, 1, 0), (2147483648, 2147485249, 2, 0), (2147483648, 2147485249, 3, 0)]
noncomputable def h_b75_1 : ev_H := (bn460 : e2_Q8)
def al_b75_2 : List ev_V := [(2, 83, 0), (11, 2147483696, 2147483705), (9, 0, 0)]
def E_b75_2 : e2_E := [(2147483648, 2147583648, 0, 0), (2147483648, 2147483656, 1, 0), (2147483648, 2147485249, 2, 0), (2147483648, 2147485248, 3, 0)]
noncomputable def h_b75_2 : ev_H := (bn540 : e2_Q8)
def al_b75_3 : List ev_V := [(2, 83, 0), (9, 0, 0), (9, 0, 0)]
def E_b75_3 : e2_E := [(2147483648, 2147583648, 0, 0), (2147483648, 2147483656, 1, 0), (2147483648, 2147485249, 2, 0), (2147483648, 2147485249, 3, 0)]
def bc171 : ev_C := (10, [(0, 0, 0), (2, 88, 0), (2, 115, 0), (2, 114, 0), (2, 86, 0), (2, 112, 0), (11, 2147483648, 2147483688), (2, 118, 0), (2, 120, 0), (2, 131, 0), (2, 91, 0), (11, 2147483648, 2147483668), (2, 123, 0), (0, 1, 0), (11, 2147483648, 2147485248), (2, 87, 0), (2, 84, 0), (2, 122, 0), (2, 100, 0), (2, 132, 0), (11, 2147483648, 2147483668), (11, 2147483648, 2147485248), (1, 0, 4294967296), (0, 0, 0), (1, 3, 4294967296), (2, 93, 0), (2, 104, 0), (11, 2147483648, 2147483678), (2, 89, 0), (2, 92, 0), (2, 119, 0), (2, 90, 0), (2, 94, 0), (2, 103, 0), (11, 2147483648, 2147483688), (11, 2147483648, 2147549184), (11, 0, 4294967295), (11, 2147483648, 2147485249), (11, 2147483649, 2147483653), (11, 2147483648, 2147483668), (2, 85, 0), (11, 0, 4294967295), (5, 0, 0), (2, 95, 0), (2, 96, 0), (2, 97, 0), (2, 98, 0), (2, 99, 0), (2, 101, 0), (2, 102, 0), (2, 105, 0), (2, 106, 0), (2, 107, 0), (2, 108, 0), (2, 109, 0), (2, 110, 0), (2, 111, 0), (11, 2147483648, 2147484768), (11, 2147482048, 2147483655), (11, 2147483648, 2147483738), (11, 2147483648, 2147483678), (11, 0, 4294967295), (11, 0, 4294967295), (11, 0, 4294967295), (11, 0, 4294967295), (11, 0, 4294967295), (2, 113, 0), (2, 116, 0), (2, 117, 0), (2, 121, 0), (11, 0, 4294967295), (11, 0, 4294967295), (2, 124, 0), (2, 125, 0), (11, 0, 4294967295), (2, 126, 0), (2, 127, 0), (2, 128, 0), (2, 129, 0), (2, 130, 0)])
def bn541 : e2_Q1 := (bc171, bc3)
def bn542 : e2_Q2 := (bn196, bn541)
def bn543 : e2_Q3 := (bn542, bn201)
def bn544 : e2_Q4 := (bn195, bn543)
def bn545 : e2_Q5 := (bn544, bn289)
def bn546 : e2_Q6 := (bn545, bn250)
def bn547 : e2_Q7 := (bn448, bn546)
def bn548 : e2_Q8 := (bn336, bn547)
noncomputable def h_b75_3 : ev_H := (bn548 : e2_Q8)
noncomputable def cl_b75_e : List (Nat × e2_S) := [(8, e2_cutL al_b75_3 3 (E_b75_3.take 3) (ev_hs h_b75_3 83 ((ev_hg h_b75_3 83).1, (ev_hg h_b75_3 83).2.set 24 (11, 2147483648, 2147485249))))]
set_option maxRecDepth 1000000 in
theorem ck_b75_e : e2_run (e2_cal S_b75 I_b75 4000 1) (e2_fin rs_b75) e2x_177 (e2_bpL cl_b75_e) (e2_cutA cl_b75_e) 4000 (e2_seek e2x_177 0) (e2_al 3 as_b75) [] E_b75 f_b75 = true := by decide +kernel
noncomputable def cl_b75_0 : List (Nat × e2_S) := [(119, e2_cutL al_b75_0 3 (E_b75_0.take 3) (ev_hs h_b75_0 83 ((ev_hg h_b75_0 83).1, (ev_hg h_b75_0 83).2.set 37 (13, 11, 2147485248)))),
  (156, e2_cutL (al_b75_1.set 2 (11, 2147483648, 2147485249)) 3 (E_b75_1.take 3) h_b75_1)]
set_option maxRecDepth 1000000 in
theorem ck_b75_0 : e2_runM (e2_cal S_b75 I_b75 4000 1) (e2_fin rs_b75) e2x_177 (e2_bpL cl_b75_0) (e2_cutA cl_b75_0) 4000 (e2_seek e2x_177 119) al_b75_0 [] E_b75_0 h_b75_0 = true := by decide +kernel
set_option maxRecDepth 1000000 in
theorem ci_b75_0 : e2_idl 3 al_b75_0 = true := by decide +kernel
set_option maxRecDepth 1000000 in
theorem cj_b75_0 : e2_idh 3 8 (ev_hs h_b75_0 83 ((ev_hg h_b75_0 83).1, (ev_hg h_b75_0 83).2.set 37 (9, 0, 0))) = true := by decide +kernel
set_option maxRecDepth 1000000 in
theorem cg_b75_0 : (ev_hg h_b75_0 83).1 < 50 ∧ (ev_hg h_b75_0 83).2[37]? = some (1, 3, 4294967296) := by decide +kernel
noncomputable def cl_b75_1 : List (Nat × e2_S) := [(156, e2_cutL (al_b75_1.set 2 (13, 11, 2147485249)) 3 (E_b75_1.take 3) h_b75_1)]
set_option maxRecDepth 1000000 in
theorem ck_b75_1 : e2_runM (e2_cal S_b75 I_b75 4000 1) (e2_fin rs_b75) e2x_177 (e2_bpL cl_b75_1) (e2_cutA cl_b75_1) 4000 (e2_seek e2x_177 156) al_b75_1 [] E_b75_1 h_b75_1 = true := by decide +kernel
set_option maxRecDepth 1000000 in
theorem ci_b75_1 : e2_idl 3 (al_b75_1.set 2 (9, 0, 0)) = true := by decide +kernel
set_option maxRecDepth 1000000 in
theorem cj_b75_1 : e2_idh 3 8 h_b75_1 = true := by decide +kernel
noncomputable def cl_b75_2 : List (Nat × e2_S) := [(259, e2_cutL al_b75_2 3 (E_b75_2.take 3) (ev_hs h_b75_2 83 ((ev_hg h_b75_2 83).1, (ev_hg h_b75_2 83).2.set 37 (13, 11, 2147485248))))]
set_option maxRecDepth 1000000 in
theorem ck_b75_2 : e2_runM (e2_cal S_b75 I_b75 4000 1) (e2_fin rs_b75) e2x_177 (e2_bpL cl_b75_2) (e2_cutA cl_b75_2) 4000 (e2_seek e2x_177 259) al_b75_2 [] E_b75_2 h_b75_2 = true := by decide +kernel
set_option maxRecDepth 1000000 in
theorem ci_b75_2 : e2_idl 3 al_b75_2 = true := by decide +kernel
set_option maxRecDepth 1000000 in
theorem cj_b75_2 : e2_idh 3 8 (ev_hs h_b75_2 83 ((ev_hg h_b75_2 83).1, (ev_hg h_b75_2 83).2.set 37 (9, 0, 0))) = true := by decide +kernel
set_option maxRecDepth 1000000 in
theorem cg_b75_2 : (ev_hg h_b75_2 83).1 < 50 ∧ (ev_hg h_b75_2 83).2[37]? = some (1, 3, 4294967296) := by decide +kernel
noncomputable def cl_b75_3 : List (Nat × e2_S) := [(119, e2_cutL al_b75_0 3 (E_b75_0.take 3) (ev_hs h_b75_0 83 ((ev_hg h_b75_0 83).1, (ev_hg h_b75_0 83).2.set 37 (11, 2147483649, 2147485248)))),
  (259, e2_cutL al_b75_2 3 (E_b75_2.take 3) (ev_hs h_b75_2 83 ((ev_hg h_b75_2 83).1, (ev_hg h_b75_2 83).2.set 37 (11, 2147483648, 2147485248)))),
  (8, e2_cutL al_b75_3 3 (E_b75_3.take 3) (ev_hs h_b75_3 83 ((ev_hg h_b75_3 83).1, (ev_hg h_b75_3 83).2.set 24 (13, 11, 2147485249))))]
set_option maxRecDepth 1000000 in
theorem ck_b75_3 : e2_runM (e2_cal S_b75 I_b75 4000 1) (e2_fin rs_b75) e2x_177 (e2_bpL cl_b75_3) (e2_cutA cl_b75_3) 4000 (e2_seek e2x_177 8) al_b75_3 [] E_b75_3 h_b75_3 = true := by decide +kernel
set_option maxRecDepth 1000000 in
theorem ci_b75_3 : e2_idl 3 al_b75_3 = true := by decide +kernel
set_option maxRecDepth 1000000 in
theorem cj_b75_3 : e2_idh 3 8 (ev_hs h_b75_3 83 ((ev_hg h_b75_3 83).1, (ev_hg h_b75_3 83).2.set 24 (9, 0, 0))) = true := by decide +kernel
set_option maxRecDepth 1000000 in
theorem cg_b75_3 : (ev_hg h_b75_3 83).1 < 50 ∧ (ev_hg h_b75_3 83).2[24]? = some (1, 3, 4294967296) := by decide +kernel
theorem cs_b75 (hen : en_ok) (l : Launch) : e2_smOk l 3 s_b75 := by
  refine e2_conG (H := 1) (n := 1) (C := evd_177) (S := S_b75) (I := I_b75) (fuel := 4000) hen ei_177 (e2_fa (cs_b72 hen l) e2_fz) (e2_fa ein_170 (e2_fa ein_171 (e2_fa ein_172 (e2_fa ein_176 e2_fz)))) (by decide) co_b75 fun M d _ hC hcall p e R s m args below meth c Q D cA A ads r0 ha hl0 => ?_
  have L_2 : e2_gdM M p l e R s m args below meth c Q D cA A ads r0 259 al_b75_2 [] E_b75_2 h_b75_2 := by
    refine e2_indH (u := 3) (a := 83) (j := 37) (lo := 2147483648) (hi := 2147485248) (b := 3) (dd := 0) hl0 (by decide) rfl rfl (Or.inr ⟨rfl, rfl⟩) (by decide) cg_b75_2.1 cg_b75_2.2 ci_b75_2 cj_b75_2 rfl ?_
    intro r_2 k_2 hk_2 hp_2 hs_2 hn_2
    have hl_2 : r_2.length ≤ 4 := hs_2.len rfl
    have ha_2 := ha.ext hp_2
    exact e2_fromM hen ha_2 hcall (e2_cutA_ok (e2_fa (fun al st E h hc => hn_2 al st E h hc) e2_fz)) (hC []) (X := e2x_177) ex2_177 259 ck_b75_2
  have EN_2 := e2_entH (u := 3) (a := 83) (j := 37) (lo := 2147483648) (hi := 2147485248) hl0 rfl rfl (by decide) cg_b75_2.1 cg_b75_2.2 ci_b75_2 cj_b75_2 rfl L_2
  have L_1 : e2_gdM M p l e R s m args below meth c Q D cA A ads r0 156 al_b75_1 [] E_b75_1 h_b75_1 := by
    refine e2_indL (u := 3) (j := 2) (lo := 2147483648) (hi := 2147485249) (b := 3) (dd := 0) hl0 (by decide) rfl rfl (Or.inr ⟨rfl, rfl⟩) rfl ci_b75_1 cj_b75_1 ?_
    intro r_1 k_1 hk_1 hp_1 hs_1 hn_1
    have hl_1 : r_1.length ≤ 4 := hs_1.len rfl
    have ha_1 := ha.ext hp_1
    exact e2_fromM hen ha_1 hcall (e2_cutA_ok (e2_fa (fun al st E h hc => hn_1 al st E h hc) e2_fz)) (hC []) (X := e2x_177) ex2_177 156 ck_b75_1
  have EN_1 := e2_entL (u := 3) (j := 2) (lo := 2147483648) (hi := 2147485249) hl0 rfl rfl rfl ci_b75_1 cj_b75_1 L_1
  have L_0 : e2_gdM M p l e R s m args below meth c Q D cA A ads r0 119 al_b75_0 [] E_b75_0 h_b75_0 := by
    refine e2_indH (u := 3) (a := 83) (j := 37) (lo := 2147483649) (hi := 2147485248) (b := 3) (dd := 0) hl0 (by decide) rfl rfl (Or.inr ⟨rfl, rfl⟩) (by decide) cg_b75_0.1 cg_b75_0.2 ci_b75_0 cj_b75_0 rfl ?_
    intro r_0 k_0 hk_0 hp_0 hs_0 hn_0
    have hl_0 : r_0.length ≤ 4 := hs_0.len rfl
    have ha_0 := ha.ext hp_0
    exact e2_fromM hen ha_0 hcall (e2_cutA_ok (e2_fa (fun al st E h hc => hn_0 al st E h hc) (e2_fa (fun al st E h hc => (EN_1 al st E h hc).ext hp_0) e2_fz))) (hC []) (X := e2x_177) ex2_177 119 ck_b75_0
  have EN_0 := e2_entH (u := 3) (a := 83) (j := 37) (lo := 2147483649) (hi := 2147485248) hl0 rfl rfl (by decide) cg_b75_0.1 cg_b75_0.2 ci_b75_0 cj_b75_0 rfl L_0
  have L_3 : e2_gdM M p l e R s m args below meth c Q D cA A ads r0 8 al_b75_3 [] E_b75_3 h_b75_3 := by
    refine e2_indH (u := 3) (a := 83) (j := 24) (lo := 2147483648) (hi := 2147485249) (b := 3) (dd := 0) hl0 (by decide) rfl rfl (Or.inr ⟨rfl, rfl⟩) (by decide) cg_b75_3.1 cg_b75_3.2 ci_b75_3 cj_b75_3 rfl ?_
    intro r_3 k_3 hk_3 hp_3 hs_3 hn_3
    have hl_3 : r_3.length ≤ 4 := hs_3.len rfl
    have ha_3 := ha.ext hp_3
    exact e2_fromM hen ha_3 hcall (e2_cutA_ok (e2_fa (fun al st E h hc => (EN_0 al st E h hc).ext hp_3) (e2_fa (fun al st E h hc => (EN_2 al st E h hc).ext hp_3) (e2_fa (fun al st E h hc => hn_3 al st E h hc) e2_fz)))) (hC []) (X := e2x_177) ex2_177 8 ck_b75_3
  have EN_3 := e2_entH (u := 3) (a := 83) (j := 24) (lo := 2147483648) (hi := 2147485249) hl0 rfl rfl (by decide) cg_b75_3.1 cg_b75_3.2 ci_b75_3 cj_b75_3 rfl L_3
  exact e2_from hen ha hcall (e2_cutA_ok (e2_fa (fun al st E h hc => EN_3 al st E h hc) e2_fz)) (hC []) (X := e2x_177) ex2_177 0 ck_b75_e
