/-! CONTRACTS b, printed by a program -/
/-! b578 X10_year -/
def as_b578 : List ev_V := [(2, 83, 0)]
def E_b578 : e2_E := [(2147483648, 2147583648, 0, 0), (2147483648, 2147483656, 1, 0)]
def bn4231 : e2_Q4 := (bn706, bn4225)
def bn4232 : e2_Q5 := (bn4231, bn343)
def bn4233 : e2_Q6 := (bn4159, bn4232)
def bn4234 : e2_Q7 := (bn4157, bn4233)
def bn4235 : e2_Q8 := (bn4234, bn4183)
noncomputable def f_b578 : ev_H := (bn4235 : e2_Q8)
noncomputable def q_b578_0 : ev_H := (bn4235 : e2_Q8)
noncomputable def rs_b578 : e2_Rs := [((11, 2147483646, 2147483668), q_b578_0)]
noncomputable def s_b578 : e2_Sm := (246, as_b578, E_b578, f_b578, rs_b578)
noncomputable def S_b578 : List e2_Sm := [s_b573, s_b577]
noncomputable def I_b578 : List e2_In := []
set_option maxRecDepth 1000000 in
theorem ck_b578 : e2_run (e2_cal S_b578 I_b578 4000 0) (e2_fin rs_b578) e2x_246 (fun _ => false) (fun _ _ _ _ _ => false) 4000 (e2_seek e2x_246 0) (e2_al 1 as_b578) [] E_b578 f_b578 = true := by decide +kernel
set_option maxRecDepth 1000000 in
theorem co_b578 : e2_okSB E_b578.length as_b578 f_b578 rs_b578 = true := by decide +kernel
theorem cs_b578 (hen : en_ok) (l : Launch) (hh : e2_hand_b l) : e2_smOk l 66 s_b578 := e2_con0 (H := 65) (n := 0) (C := evd_246) (S := S_b578) (I := I_b578) (fuel := 4000) [] hen ei_246 (e2_fa ((cs_b573 hen l).mono (by decide)) (e2_fa (cs_b577 hen l hh) e2_fz)) e2_fz (by decide) co_b578 ex2_246 ck_b578
/-! b579 X10_undo -/
def as_b579 : List ev_V := [(2, 83, 0)]
def E_b579 : e2_E := [(2147483648, 2147583648, 0, 0), (2147483648, 2147483656, 1, 0)]
noncomputable def f_b579 : ev_H := (bn4192 : e2_Q8)
noncomputable def q_b579_0 : ev_H := (bn4224 : e2_Q8)
noncomputable def rs_b579 : e2_Rs := [((11, 2147483648, 2147483649), q_b579_0)]
noncomputable def s_b579 : e2_Sm := (247, as_b579, E_b579, f_b579, rs_b579)
noncomputable def S_b579 : List e2_Sm := [s_b574]
noncomputable def I_b579 : List e2_In := []
set_option maxRecDepth 1000000 in
theorem ck_b579 : e2_run (e2_cal S_b579 I_b579 4000 0) (e2_fin rs_b579) e2x_247 (fun _ => false) (fun _ _ _ _ _ => false) 4000 (e2_seek e2x_247 0) (e2_al 1 as_b579) [] E_b579 f_b579 = true := by decide +kernel
set_option maxRecDepth 1000000 in
theorem co_b579 : e2_okSB E_b579.length as_b579 f_b579 rs_b579 = true := by decide +kernel
theorem cs_b579 (hen : en_ok) (l : Launch) : e2_smOk l 2 s_b579 := e2_con0 (H := 1) (n := 0) (C := evd_247) (S := S_b579) (I := I_b579) (fuel := 4000) [] hen ei_247 (e2_fa (cs_b574 hen l) e2_fz) e2_fz (by decide) co_b579 ex2_247 ck_b579
/-! b580 X10_redo -/
def as_b580 : List ev_V := [(2, 83, 0)]
def E_b580 : e2_E := [(2147483648, 2147583648, 0, 0), (2147483648, 2147483656, 1, 0)]
noncomputable def f_b580 : ev_H := (bn4192 : e2_Q8)
def bc297 : ev_C := (10, [(0, 0, 0), (2, 88, 0), (2, 115, 0), (2, 114, 0), (2, 86, 0), (2, 112, 0), (11, 2147483648, 2147483689), (2, 118, 0), (2, 120, 0), (2, 131, 0), (2, 91, 0), (11, 2147483648, 2147483668), (2, 123, 0), (11, 2147483648, 2147483649), (11, 2147483648, 2147485248), (2, 87, 0), (2, 84, 0), (2, 122, 0), (2, 100, 0), (2, 132, 0), (11, 2147483648, 2147483668), (11, 2147483648, 2147485248), (1, 0, 4294967296), (11, 2147483648, 2147483653), (11, 2147483648, 2147485248), (2, 93, 0), (2, 104, 0), (11, 2147483648, 2147483678), (2, 89, 0), (2, 92, 0), (2, 119, 0), (2, 90, 0), (2, 94, 0), (2, 103, 0), (11, 2147483647, 2147483688), (11, 2147483648, 2147549184), (11, 0, 4294967295), (11, 2147483648, 2147485249), (11, 2147483648, 2147483653), (11, 2147483648, 2147483668), (2, 85, 0), (11, 0, 4294967295), (5, 0, 0), (2, 95, 0), (2, 96, 0), (2, 97, 0), (2, 98, 0), (2, 99, 0), (2, 101, 0), (2, 102, 0), (2, 105, 0), (2, 106, 0), (2, 107, 0), (2, 108, 0), (2, 109, 0), (2, 110, 0), (2, 111, 0), (11, 2147483648, 2147484768), (11, 2147482048, 2147483655), (11, 2147483648, 2147483738), (11, 2147483648, 2147483678), (11, 0, 4294967295), (11, 0, 4294967295), (11, 0, 4294967295), (11, 0, 4294967295), (11, 0, 4294967295), (2, 113, 0), (2, 116, 0), (2, 117, 0), (2, 121, 0), (11, 0, 4294967295), (11, 0, 4294967295), (2, 124, 0), (2, 125, 0), (11, 0, 4294967295), (2, 126, 0), (2, 127, 0), (2, 128, 0), (2, 129, 0), (2, 130, 0)])
def bn4236 : e2_Q1 := (bc297, bc3)
def bn4237 : e2_Q2 := (bn196, bn4236)
def bn4238 : e2_Q3 := (bn4237, bn201)
def bn4239 : e2_Q4 := (bn195, bn4238)
def bn4240 : e2_Q5 := (bn4239, bn365)
def bn4241 : e2_Q6 := (bn4240, bn250)
def bn4242 : e2_Q7 := (bn736, bn4241)
def bn4243 : e2_Q8 := (bn4191, bn4242)
noncomputable def q_b580_0 : ev_H := (bn4243 : e2_Q8)
noncomputable def rs_b580 : e2_Rs := [((11, 2147483648, 2147483649), q_b580_0)]
noncomputable def s_b580 : e2_Sm := (248, as_b580, E_b580, f_b580, rs_b580)
noncomputable def S_b580 : List e2_Sm := [s_b574]
noncomputable def I_b580 : List e2_In := []
set_option maxRecDepth 1000000 in
theorem ck_b580 : e2_run (e2_cal S_b580 I_b580 4000 0) (e2_fin rs_b580) e2x_248 (fun _ => false) (fun _ _ _ _ _ => false) 4000 (e2_seek e2x_248 0) (e2_al 1 as_b580) [] E_b580 f_b580 = true := by decide +kernel
set_option maxRecDepth 1000000 in
theorem co_b580 : e2_okSB E_b580.length as_b580 f_b580 rs_b580 = true := by decide +kernel
theorem cs_b580 (hen : en_ok) (l : Launch) : e2_smOk l 2 s_b580 := e2_con0 (H := 1) (n := 0) (C := evd_248) (S := S_b580) (I := I_b580) (fuel := 4000) [] hen ei_248 (e2_fa (cs_b574 hen l) e2_fz) e2_fz (by decide) co_b580 ex2_248 ck_b580
/-! b581 X10_readings -/
def as_b581 : List ev_V := [(2, 83, 0)]
def E_b581 : e2_E := [(2147483648, 2147583648, 0, 0), (2147483648, 2147483656, 1, 0)]
noncomputable def f_b581 : ev_H := (bn4168 : e2_Q8)
noncomputable def q_b581_0 : ev_H := (bn4168 : e2_Q8)
noncomputable def rs_b581 : e2_Rs := [((11, 0, 4294967295), q_b581_0)]
noncomputable def s_b581 : e2_Sm := (249, as_b581, E_b581, f_b581, rs_b581)
noncomputable def S_b581 : List e2_Sm := [s_b566]
noncomputable def I_b581 : List e2_In := [(227, 2, e2x_227), (232, 1, e2x_232)]
set_option maxRecDepth 1000000 in
theorem ck_b581 : e2_run (e2_cal S_b581 I_b581 4000 2) (e2_fin rs_b581) e2x_249 (fun _ => false) (fun _ _ _ _ _ => false) 4000 (e2_seek e2x_249 0) (e2_al 1 as_b581) [] E_b581 f_b581 = true := by decide +kernel
set_option maxRecDepth 1000000 in
theorem co_b581 : e2_okSB E_b581.length as_b581 f_b581 rs_b581 = true := by decide +kernel
theorem cs_b581 (hen : en_ok) (l : Launch) (hh : e2_hand_b l) : e2_smOk l 66 s_b581 := e2_con0 (H := 63) (n := 2) (C := evd_249) (S := S_b581) (I := I_b581) (fuel := 4000) [] hen ei_249 (e2_fa (cs_b566 hen l hh) e2_fz) (e2_fa ein_227 (e2_fa ein_232 e2_fz)) (by decide) co_b581 ex2_249 ck_b581
/-! b582 X10_taken -/
def as_b582 : List ev_V := [(2, 83, 0)]
def E_b582 : e2_E := [(2147483648, 2147583648, 0, 0), (2147483648, 2147483656, 1, 0)]
def bc298 : ev_C := (54, [(0, 20, 0), (11, 0, 4294967295)])
def bn4244 : e2_Q1 := (bc298, bc3)
def bn4245 : e2_Q2 := (bn230, bn4244)
def bn4246 : e2_Q3 := (bn229, bn4245)
def bn4247 : e2_Q4 := (bn226, bn4246)
def bn4248 : e2_Q5 := (bn4247, bn727)
def bn4249 : e2_Q6 := (bn4165, bn4248)
def bn4250 : e2_Q7 := (bn4164, bn4249)
def bn4251 : e2_Q8 := (bn4161, bn4250)
noncomputable def f_b582 : ev_H := (bn4251 : e2_Q8)
noncomputable def q_b582_0 : ev_H := (bn4251 : e2_Q8)
noncomputable def rs_b582 : e2_Rs := [((11, 2147483647, 2147483668), q_b582_0)]
noncomputable def s_b582 : e2_Sm := (251, as_b582, E_b582, f_b582, rs_b582)
noncomputable def S_b582 : List e2_Sm := [s_b566]
noncomputable def I_b582 : List e2_In := []
set_option maxRecDepth 1000000 in
theorem co_b582 : e2_okSB E_b582.length as_b582 f_b582 rs_b582 = true := by decide +kernel
def al_b582_0 : List ev_V := [(2, 83, 0), (11, 2147483647, 2147483668), (1, 2, 4294967296)]
def E_b582_0 : e2_E := [(2147483648, 2147583648, 0, 0), (2147483648, 2147483656, 1, 0), (2147483648, 2147483668, 2, 0)]
noncomputable def h_b582_0 : ev_H := (bn4251 : e2_Q8)
noncomputable def cl_b582_e : List (Nat × e2_S) := [(12, e2_cutL (al_b582_0.set 2 (11, 2147483648, 2147483668)) 2 (E_b582_0.take 2) h_b582_0)]
set_option maxRecDepth 1000000 in
theorem ck_b582_e : e2_run (e2_cal S_b582 I_b582 4000 0) (e2_fin rs_b582) e2x_251 (e2_bpL cl_b582_e) (e2_cutA cl_b582_e) 4000 (e2_seek e2x_251 0) (e2_al 3 as_b582) [] E_b582 f_b582 = true := by decide +kernel
noncomputable def cl_b582_0 : List (Nat × e2_S) := [(12, e2_cutL (al_b582_0.set 2 (13, 10, 2147483668)) 2 (E_b582_0.take 2) h_b582_0)]
set_option maxRecDepth 1000000 in
theorem ck_b582_0 : e2_runM (e2_cal S_b582 I_b582 4000 0) (e2_fin rs_b582) e2x_251 (e2_bpL cl_b582_0) (e2_cutA cl_b582_0) 4000 (e2_seek e2x_251 12) al_b582_0 [] E_b582_0 h_b582_0 = true := by decide +kernel
set_option maxRecDepth 1000000 in
theorem ci_b582_0 : e2_idl 2 (al_b582_0.set 2 (9, 0, 0)) = true := by decide +kernel
set_option maxRecDepth 1000000 in
theorem cj_b582_0 : e2_idh 2 8 h_b582_0 = true := by decide +kernel
theorem cs_b582 (hen : en_ok) (l : Launch) (hh : e2_hand_b l) : e2_smOk l 64 s_b582 := by
  refine e2_conG (H := 63) (n := 0) (C := evd_251) (S := S_b582) (I := I_b582) (fuel := 4000) hen ei_251 (e2_fa (cs_b566 hen l hh) e2_fz) e2_fz (by decide) co_b582 fun M d _ hC hcall p e R s m args below meth c Q D cA A ads r0 ha hl0 => ?_
  have L_0 : e2_gdM M p l e R s m args below meth c Q D cA A ads r0 12 al_b582_0 [] E_b582_0 h_b582_0 := by
    refine e2_indL (u := 2) (j := 2) (lo := 2147483648) (hi := 2147483668) (b := 2) (dd := 0) hl0 (by decide) rfl rfl (Or.inr ⟨rfl, rfl⟩) rfl ci_b582_0 cj_b582_0 ?_
    intro r_0 k_0 hk_0 hp_0 hs_0 hn_0
    have hl_0 : r_0.length ≤ 3 := hs_0.len rfl
    have ha_0 := ha.ext hp_0
    exact e2_fromM hen ha_0 hcall (e2_cutA_ok (e2_fa (fun al st E h hc => hn_0 al st E h hc) e2_fz)) (hC []) (X := e2x_251) ex2_251 12 ck_b582_0
  have EN_0 := e2_entL (u := 2) (j := 2) (lo := 2147483648) (hi := 2147483668) hl0 rfl rfl rfl ci_b582_0 cj_b582_0 L_0
  exact e2_from hen ha hcall (e2_cutA_ok (e2_fa (fun al st E h hc => EN_0 al st E h hc) e2_fz)) (hC []) (X := e2x_251) ex2_251 0 ck_b582_e
/-! b583 X10_weight -/
def as_b583 : List ev_V := [(2, 83, 0)]
def E_b583 : e2_E := [(2147483648, 2147583648, 0, 0), (2147483648, 2147483656, 1, 0)]
noncomputable def f_b583 : ev_H := (bn4168 : e2_Q8)
noncomputable def q_b583_0 : ev_H := (bn4168 : e2_Q8)
noncomputable def rs_b583 : e2_Rs := [((11, 0, 4294967295), q_b583_0)]
noncomputable def s_b583 : e2_Sm := (252, as_b583, E_b583, f_b583, rs_b583)
noncomputable def S_b583 : List e2_Sm := [s_b566]
noncomputable def I_b583 : List e2_In := [(227, 2, e2x_227)]
set_option maxRecDepth 1000000 in
theorem ck_b583 : e2_run (e2_cal S_b583 I_b583 4000 1) (e2_fin rs_b583) e2x_252 (fun _ => false) (fun _ _ _ _ _ => false) 4000 (e2_seek e2x_252 0) (e2_al 1 as_b583) [] E_b583 f_b583 = true := by decide +kernel
set_option maxRecDepth 1000000 in
theorem co_b583 : e2_okSB E_b583.length as_b583 f_b583 rs_b583 = true := by decide +kernel
theorem cs_b583 (hen : en_ok) (l : Launch) (hh : e2_hand_b l) : e2_smOk l 65 s_b583 := e2_con0 (H := 63) (n := 1) (C := evd_252) (S := S_b583) (I := I_b583) (fuel := 4000) [] hen ei_252 (e2_fa (cs_b566 hen l hh) e2_fz) (e2_fa ein_227 e2_fz) (by decide) co_b583 ex2_252 ck_b583
/-! b584 X10_does -/
def as_b584 : List ev_V := [(2, 83, 0), (11, 0, 4294967295)]
def E_b584 : e2_E := [(2147483648, 2147583648, 0, 0), (2147483648, 2147483656, 1, 0)]
def bn4252 : e2_Q5 := (bn840, bn727)
def bn4253 : e2_Q6 := (bn4181, bn4252)
def bn4254 : e2_Q7 := (bn4164, bn4253)
def bn4255 : e2_Q8 := (bn4161, bn4254)
noncomputable def f_b584 : ev_H := (bn4255 : e2_Q8)
noncomputable def q_b584_0 : ev_H := (bn4255 : e2_Q8)
noncomputable def rs_b584 : e2_Rs := [((11, 0, 4294967295), q_b584_0)]
noncomputable def s_b584 : e2_Sm := (253, as_b584, E_b584, f_b584, rs_b584)
noncomputable def S_b584 : List e2_Sm := [s_b566, s_b567]
noncomputable def I_b584 : List e2_In := [(212, 3, e2x_212), (220, 2, e2x_220)]
set_option maxRecDepth 1000000 in
theorem ck_b584 : e2_run (e2_cal S_b584 I_b584 4000 2) (e2_fin rs_b584) e2x_253 (fun _ => false) (fun _ _ _ _ _ => false) 4000 (e2_seek e2x_253 0) (e2_al 2 as_b584) [] E_b584 f_b584 = true := by decide +kernel
set_option maxRecDepth 1000000 in
theorem co_b584 : e2_okSB E_b584.length as_b584 f_b584 rs_b584 = true := by decide +kernel
theorem cs_b584 (hen : en_ok) (l : Launch) (hh : e2_hand_b l) : e2_smOk l 66 s_b584 := e2_con0 (H := 63) (n := 2) (C := evd_253) (S := S_b584) (I := I_b584) (fuel := 4000) [] hen ei_253 (e2_fa (cs_b566 hen l hh) (e2_fa ((cs_b567 hen l).mono (by decide)) e2_fz)) (e2_fa ein_212 (e2_fa ein_220 e2_fz)) (by decide) co_b584 ex2_253 ck_b584
/-! b585 X10_goYears -/
def as_b585 : List ev_V := [(2, 83, 0), (11, 2147483648, 2147483708)]
def E_b585 : e2_E := [(2147483648, 2147583648, 0, 0), (2147483648, 2147483656, 1, 0)]
def bn4256 : e2_Q2 := (bn25, bn696)
def bn4257 : e2_Q3 := (bn749, bn4256)
def bn4258 : e2_Q4 := (bn747, bn4257)
def bn4259 : e2_Q5 := (bn2694, bn4258)
def bn4260 : e2_Q6 := (bn4259, bn4156)
def bn4261 : e2_Q7 := (bn4260, bn4160)
def bn4262 : e2_Q8 := (bn4261, bn4183)
noncomputable def f_b585 : ev_H := (bn4262 : e2_Q8)
noncomputable def q_b585_0 : ev_H := (bn4262 : e2_Q8)
noncomputable def rs_b585 : e2_Rs := [((9, 0, 0), q_b585_0)]
noncomputable def s_b585 : e2_Sm := (254, as_b585, E_b585, f_b585, rs_b585)
noncomputable def S_b585 : List e2_Sm := [s_b577]
noncomputable def I_b585 : List e2_In := []
set_option maxRecDepth 1000000 in
theorem co_b585 : e2_okSB E_b585.length as_b585 f_b585 rs_b585 = true := by decide +kernel
def al_b585_0 : List ev_V := [(2, 83, 0), (11, 2147483648, 2147483708), (1, 2, 4294967296)]
def E_b585_0 : e2_E := [(2147483648, 2147583648, 0, 0), (2147483648, 2147483656, 1, 0), (2147483648, 2147483674, 2, 0)]
noncomputable def h_b585_0 : ev_H := (bn4262 : e2_Q8)
def al_b585_1 : List ev_V := [(2, 83, 0), (11, 2147483648, 2147483708), (1, 2, 4294967296)]
def E_b585_1 : e2_E := [(2147483648, 2147583648, 0, 0), (2147483648, 2147483656, 1, 0), (2147483648, 2147483708, 2, 0)]
noncomputable def h_b585_1 : ev_H := (bn4262 : e2_Q8)
noncomputable def cl_b585_e : List (Nat × e2_S) := [(2, e2_cutL (al_b585_0.set 2 (11, 2147483648, 2147483674)) 2 (E_b585_0.take 2) h_b585_0)]
set_option maxRecDepth 1000000 in
theorem ck_b585_e : e2_run (e2_cal S_b585 I_b585 4000 0) (e2_fin rs_b585) e2x_254 (e2_bpL cl_b585_e) (e2_cutA cl_b585_e) 4000 (e2_seek e2x_254 0) (e2_al 3 as_b585) [] E_b585 f_b585 = true := by decide +kernel
noncomputable def cl_b585_0 : List (Nat × e2_S) := [(2, e2_cutL (al_b585_0.set 2 (13, 10, 2147483674)) 2 (E_b585_0.take 2) h_b585_0),
  (28, e2_cutL (al_b585_1.set 2 (11, 2147483648, 2147483708)) 2 (E_b585_1.take 2) h_b585_1)]
set_option maxRecDepth 1000000 in
theorem ck_b585_0 : e2_runM (e2_cal S_b585 I_b585 4000 0) (e2_fin rs_b585) e2x_254 (e2_bpL cl_b585_0) (e2_cutA cl_b585_0) 4000 (e2_seek e2x_254 2) al_b585_0 [] E_b585_0 h_b585_0 = true := by decide +kernel
set_option maxRecDepth 1000000 in
theorem ci_b585_0 : e2_idl 2 (al_b585_0.set 2 (9, 0, 0)) = true := by decide +kernel
set_option maxRecDepth 1000000 in
theorem cj_b585_0 : e2_idh 2 8 h_b585_0 = true := by decide +kernel
noncomputable def cl_b585_1 : List (Nat × e2_S) := [(28, e2_cutL (al_b585_1.set 2 (13, 10, 2147483708)) 2 (E_b585_1.take 2) h_b585_1)]
set_option maxRecDepth 1000000 in
theorem ck_b585_1 : e2_runM (e2_cal S_b585 I_b585 4000 0) (e2_fin rs_b585) e2x_254 (e2_bpL cl_b585_1) (e2_cutA cl_b585_1) 4000 (e2_seek e2x_254 28) al_b585_1 [] E_b585_1 h_b585_1 = true := by decide +kernel
set_option maxRecDepth 1000000 in
theorem ci_b585_1 : e2_idl 2 (al_b585_1.set 2 (9, 0, 0)) = true := by decide +kernel
set_option maxRecDepth 1000000 in
theorem cj_b585_1 : e2_idh 2 8 h_b585_1 = true := by decide +kernel
theorem cs_b585 (hen : en_ok) (l : Launch) (hh : e2_hand_b l) : e2_smOk l 66 s_b585 := by
  refine e2_conG (H := 65) (n := 0) (C := evd_254) (S := S_b585) (I := I_b585) (fuel := 4000) hen ei_254 (e2_fa (cs_b577 hen l hh) e2_fz) e2_fz (by decide) co_b585 fun M d _ hC hcall p e R s m args below meth c Q D cA A ads r0 ha hl0 => ?_
  have L_1 : e2_gdM M p l e R s m args below meth c Q D cA A ads r0 28 al_b585_1 [] E_b585_1 h_b585_1 := by
    refine e2_indL (u := 2) (j := 2) (lo := 2147483648) (hi := 2147483708) (b := 2) (dd := 0) hl0 (by decide) rfl rfl (Or.inr ⟨rfl, rfl⟩) rfl ci_b585_1 cj_b585_1 ?_
    intro r_1 k_1 hk_1 hp_1 hs_1 hn_1
    have hl_1 : r_1.length ≤ 3 := hs_1.len rfl
    have ha_1 := ha.ext hp_1
    exact e2_fromM hen ha_1 hcall (e2_cutA_ok (e2_fa (fun al st E h hc => hn_1 al st E h hc) e2_fz)) (hC [12]) (X := e2x_254) ex2_254 28 ck_b585_1
  have EN_1 := e2_entL (u := 2) (j := 2) (lo := 2147483648) (hi := 2147483708) hl0 rfl rfl rfl ci_b585_1 cj_b585_1 L_1
  have L_0 : e2_gdM M p l e R s m args below meth c Q D cA A ads r0 2 al_b585_0 [] E_b585_0 h_b585_0 := by
    refine e2_indL (u := 2) (j := 2) (lo := 2147483648) (hi := 2147483674) (b := 2) (dd := 0) hl0 (by decide) rfl rfl (Or.inr ⟨rfl, rfl⟩) rfl ci_b585_0 cj_b585_0 ?_
    intro r_0 k_0 hk_0 hp_0 hs_0 hn_0
    have hl_0 : r_0.length ≤ 3 := hs_0.len rfl
    have ha_0 := ha.ext hp_0
    exact e2_fromM hen ha_0 hcall (e2_cutA_ok (e2_fa (fun al st E h hc => hn_0 al st E h hc) (e2_fa (fun al st E h hc => (EN_1 al st E h hc).ext hp_0) e2_fz))) (hC [12]) (X := e2x_254) ex2_254 2 ck_b585_0
  have EN_0 := e2_entL (u := 2) (j := 2) (lo := 2147483648) (hi := 2147483674) hl0 rfl rfl rfl ci_b585_0 cj_b585_0 L_0
  exact e2_from hen ha hcall (e2_cutA_ok (e2_fa (fun al st E h hc => EN_0 al st E h hc) e2_fz)) (hC [12]) (X := e2x_254) ex2_254 0 ck_b585_e
/-! b586 X10_bringBack -/
def as_b586 : List ev_V := [(2, 83, 0)]
def E_b586 : e2_E := [(2147483648, 2147583648, 0, 0), (2147483648, 2147483656, 1, 0)]
def bn4263 : e2_Q3 := (bn24, bn4256)
def bn4264 : e2_Q4 := (bn21, bn4263)
def bn4265 : e2_Q5 := (bn699, bn4264)
def bn4266 : e2_Q6 := (bn4265, bn338)
def bn4267 : e2_Q7 := (bn4266, bn345)
def bn4268 : e2_Q8 := (bn4267, bn3559)
noncomputable def f_b586 : ev_H := (bn4268 : e2_Q8)
noncomputable def q_b586_0 : ev_H := (bn4268 : e2_Q8)
noncomputable def rs_b586 : e2_Rs := [((9, 0, 0), q_b586_0)]
noncomputable def s_b586 : e2_Sm := (255, as_b586, E_b586, f_b586, rs_b586)
noncomputable def S_b586 : List e2_Sm := []
noncomputable def I_b586 : List e2_In := []
set_option maxRecDepth 1000000 in
theorem co_b586 : e2_okSB E_b586.length as_b586 f_b586 rs_b586 = true := by decide +kernel
def al_b586_0 : List ev_V := [(2, 83, 0), (1, 2, 4294967296)]
def E_b586_0 : e2_E := [(2147483648, 2147583648, 0, 0), (2147483648, 2147483656, 1, 0), (2147483648, 2147483674, 2, 0)]
noncomputable def h_b586_0 : ev_H := (bn4268 : e2_Q8)
noncomputable def cl_b586_e : List (Nat × e2_S) := [(2, e2_cutL (al_b586_0.set 1 (11, 2147483648, 2147483674)) 2 (E_b586_0.take 2) h_b586_0)]
set_option maxRecDepth 1000000 in
theorem ck_b586_e : e2_run (e2_cal S_b586 I_b586 4000 0) (e2_fin rs_b586) e2x_255 (e2_bpL cl_b586_e) (e2_cutA cl_b586_e) 4000 (e2_seek e2x_255 0) (e2_al 2 as_b586) [] E_b586 f_b586 = true := by decide +kernel
noncomputable def cl_b586_0 : List (Nat × e2_S) := [(2, e2_cutL (al_b586_0.set 1 (13, 10, 2147483674)) 2 (E_b586_0.take 2) h_b586_0)]
set_option maxRecDepth 1000000 in
theorem ck_b586_0 : e2_runM (e2_cal S_b586 I_b586 4000 0) (e2_fin rs_b586) e2x_255 (e2_bpL cl_b586_0) (e2_cutA cl_b586_0) 4000 (e2_seek e2x_255 2) al_b586_0 [] E_b586_0 h_b586_0 = true := by decide +kernel
set_option maxRecDepth 1000000 in
theorem ci_b586_0 : e2_idl 2 (al_b586_0.set 1 (9, 0, 0)) = true := by decide +kernel
set_option maxRecDepth 1000000 in
theorem cj_b586_0 : e2_idh 2 8 h_b586_0 = true := by decide +kernel
theorem cs_b586 (hen : en_ok) (l : Launch) : e2_smOk l 1 s_b586 := by
  refine e2_conG (H := 0) (n := 0) (C := evd_255) (S := S_b586) (I := I_b586) (fuel := 4000) hen ei_255 e2_fz e2_fz (by decide) co_b586 fun M d _ hC hcall p e R s m args below meth c Q D cA A ads r0 ha hl0 => ?_
  have L_0 : e2_gdM M p l e R s m args below meth c Q D cA A ads r0 2 al_b586_0 [] E_b586_0 h_b586_0 := by
    refine e2_indL (u := 2) (j := 1) (lo := 2147483648) (hi := 2147483674) (b := 2) (dd := 0) hl0 (by decide) rfl rfl (Or.inr ⟨rfl, rfl⟩) rfl ci_b586_0 cj_b586_0 ?_
    intro r_0 k_0 hk_0 hp_0 hs_0 hn_0
    have hl_0 : r_0.length ≤ 3 := hs_0.len rfl
    have ha_0 := ha.ext hp_0
    exact e2_fromM hen ha_0 hcall (e2_cutA_ok (e2_fa (fun al st E h hc => hn_0 al st E h hc) e2_fz)) (hC [12]) (X := e2x_255) ex2_255 2 ck_b586_0
  have EN_0 := e2_entL (u := 2) (j := 1) (lo := 2147483648) (hi := 2147483674) hl0 rfl rfl rfl ci_b586_0 cj_b586_0 L_0
  exact e2_from hen ha hcall (e2_cutA_ok (e2_fa (fun al st E h hc => EN_0 al st E h hc) e2_fz)) (hC [12]) (X := e2x_255) ex2_255 0 ck_b586_e
/-! b587 X10_will -/
def as_b587 : List ev_V := [(2, 83, 0), (11, 0, 4294967295), (11, 0, 4294967295)]
def E_b587 : e2_E := [(2147483648, 2147583648, 0, 0), (2147483648, 2147483656, 1, 0)]
def bn4269 : e2_Q8 := (bn4261, bn4254)
noncomputable def f_b587 : ev_H := (bn4269 : e2_Q8)
noncomputable def q_b587_0 : ev_H := (bn4269 : e2_Q8)
noncomputable def rs_b587 : e2_Rs := [((11, 0, 4294967295), q_b587_0)]
noncomputable def s_b587 : e2_Sm := (256, as_b587, E_b587, f_b587, rs_b587)
noncomputable def S_b587 : List e2_Sm := [s_b585, s_b586]
noncomputable def I_b587 : List e2_In := [(212, 3, e2x_212), (220, 2, e2x_220)]
set_option maxRecDepth 1000000 in
theorem ck_b587 : e2_run (e2_cal S_b587 I_b587 4000 2) (e2_fin rs_b587) e2x_256 (fun _ => false) (fun _ _ _ _ _ => false) 4000 (e2_seek e2x_256 0) (e2_al 4 as_b587) [] E_b587 f_b587 = true := by decide +kernel
set_option maxRecDepth 1000000 in
theorem co_b587 : e2_okSB E_b587.length as_b587 f_b587 rs_b587 = true := by decide +kernel
theorem cs_b587 (hen : en_ok) (l : Launch) (hh : e2_hand_b l) : e2_smOk l 69 s_b587 := e2_con0 (H := 66) (n := 2) (C := evd_256) (S := S_b587) (I := I_b587) (fuel := 4000) [] hen ei_256 (e2_fa (cs_b585 hen l hh) (e2_fa ((cs_b586 hen l).mono (by decide)) e2_fz)) (e2_fa ein_212 (e2_fa ein_220 e2_fz)) (by decide) co_b587 ex2_256 ck_b587
/-! b588 X10_field -/
def as_b588 : List ev_V := [(2, 83, 0), (11, 0, 4294967295)]
def E_b588 : e2_E := [(2147483648, 2147583648, 0, 0), (2147483648, 2147483656, 1, 0)]
noncomputable def f_b588 : ev_H := (bn4262 : e2_Q8)
noncomputable def q_b588_0 : ev_H := (bn4262 : e2_Q8)
noncomputable def rs_b588 : e2_Rs := [((11, 0, 4294967295), q_b588_0)]
noncomputable def s_b588 : e2_Sm := (257, as_b588, E_b588, f_b588, rs_b588)
noncomputable def S_b588 : List e2_Sm := [s_b550, s_b585, s_b586]
noncomputable def I_b588 : List e2_In := [(212, 3, e2x_212)]
set_option maxRecDepth 1000000 in
theorem ck_b588 : e2_run (e2_cal S_b588 I_b588 4000 1) (e2_fin rs_b588) e2x_257 (fun _ => false) (fun _ _ _ _ _ => false) 4000 (e2_seek e2x_257 0) (e2_al 3 as_b588) [] E_b588 f_b588 = true := by decide +kernel
set_option maxRecDepth 1000000 in
theorem co_b588 : e2_okSB E_b588.length as_b588 f_b588 rs_b588 = true := by decide +kernel
theorem cs_b588 (hen : en_ok) (l : Launch) (hh : e2_hand_b l) : e2_smOk l 68 s_b588 := e2_con0 (H := 66) (n := 1) (C := evd_257) (S := S_b588) (I := I_b588) (fuel := 4000) [] hen ei_257 (e2_fa ((cs_b550 hen l).mono (by decide)) (e2_fa (cs_b585 hen l hh) (e2_fa ((cs_b586 hen l).mono (by decide)) e2_fz))) (e2_fa ein_212 e2_fz) (by decide) co_b588 ex2_257 ck_b588
/-! b589 X10_harm -/
def as_b589 : List ev_V := [(2, 83, 0)]
def E_b589 : e2_E := [(2147483648, 2147583648, 0, 0), (2147483648, 2147483656, 1, 0)]
noncomputable def f_b589 : ev_H := (bn4184 : e2_Q8)
noncomputable def q_b589_0 : ev_H := (bn4184 : e2_Q8)
noncomputable def rs_b589 : e2_Rs := [((11, 2147483648, 2147483649), q_b589_0)]
noncomputable def s_b589 : e2_Sm := (258, as_b589, E_b589, f_b589, rs_b589)
noncomputable def S_b589 : List e2_Sm := [s_b566, s_b568]
noncomputable def I_b589 : List e2_In := []
set_option maxRecDepth 1000000 in
theorem ck_b589 : e2_run (e2_cal S_b589 I_b589 4000 0) (e2_fin rs_b589) e2x_258 (fun _ => false) (fun _ _ _ _ _ => false) 4000 (e2_seek e2x_258 0) (e2_al 1 as_b589) [] E_b589 f_b589 = true := by decide +kernel
set_option maxRecDepth 1000000 in
theorem co_b589 : e2_okSB E_b589.length as_b589 f_b589 rs_b589 = true := by decide +kernel
theorem cs_b589 (hen : en_ok) (l : Launch) (hh : e2_hand_b l) : e2_smOk l 64 s_b589 := e2_con0 (H := 63) (n := 0) (C := evd_258) (S := S_b589) (I := I_b589) (fuel := 4000) [] hen ei_258 (e2_fa (cs_b566 hen l hh) (e2_fa ((cs_b568 hen l).mono (by decide)) e2_fz)) e2_fz (by decide) co_b589 ex2_258 ck_b589
/-! b590 X10_isWanted -/
def as_b590 : List ev_V := [(2, 83, 0), (11, 0, 4294967295), (11, 2147483648, 2147483649)]
def E_b590 : e2_E := [(2147483648, 2147583648, 0, 0), (2147483648, 2147483656, 1, 0)]
def bn4270 : e2_Q6 := (bn4159, bn1284)
def bn4271 : e2_Q7 := (bn3610, bn4270)
def bn4272 : e2_Q2 := (bn152, bn4244)
def bn4273 : e2_Q3 := (bn151, bn4272)
def bn4274 : e2_Q4 := (bn148, bn4273)
def bn4275 : e2_Q5 := (bn3574, bn4274)
def bn4276 : e2_Q6 := (bn4275, bn3621)
def bn4277 : e2_Q5 := (bn4180, bn365)
def bn4278 : e2_Q6 := (bn4277, bn250)
def bn4279 : e2_Q7 := (bn4276, bn4278)
def bn4280 : e2_Q8 := (bn4271, bn4279)
noncomputable def f_b590 : ev_H := (bn4280 : e2_Q8)
noncomputable def q_b590_0 : ev_H := (bn4280 : e2_Q8)
noncomputable def rs_b590 : e2_Rs := [((11, 2147483648, 2147483649), q_b590_0)]
noncomputable def s_b590 : e2_Sm := (259, as_b590, E_b590, f_b590, rs_b590)
noncomputable def S_b590 : List e2_Sm := [s_b565, s_b567]
noncomputable def I_b590 : List e2_In := [(227, 2, e2x_227), (232, 1, e2x_232)]
set_option maxRecDepth 1000000 in
theorem co_b590 : e2_okSB E_b590.length as_b590 f_b590 rs_b590 = true := by decide +kernel
def al_b590_0 : List ev_V := [(2, 83, 0), (11, 0, 4294967295), (0, 1, 0), (1, 2, 4294967296)]
def E_b590_0 : e2_E := [(2147483648, 2147583648, 0, 0), (2147483648, 2147483656, 1, 0), (2147483648, 2147483668, 2, 0)]
noncomputable def h_b590_0 : ev_H := (bn4280 : e2_Q8)
noncomputable def cl_b590_e : List (Nat × e2_S) := [(58, e2_cutL (al_b590_0.set 3 (11, 2147483648, 2147483668)) 2 (E_b590_0.take 2) h_b590_0)]
set_option maxRecDepth 1000000 in
theorem ck_b590_e : e2_run (e2_cal S_b590 I_b590 4000 2) (e2_fin rs_b590) e2x_259 (e2_bpL cl_b590_e) (e2_cutA cl_b590_e) 4000 (e2_seek e2x_259 0) (e2_al 4 as_b590) [] E_b590 f_b590 = true := by decide +kernel
noncomputable def cl_b590_0 : List (Nat × e2_S) := [(58, e2_cutL (al_b590_0.set 3 (13, 10, 2147483668)) 2 (E_b590_0.take 2) h_b590_0)]
set_option maxRecDepth 1000000 in
theorem ck_b590_0 : e2_runM (e2_cal S_b590 I_b590 4000 2) (e2_fin rs_b590) e2x_259 (e2_bpL cl_b590_0) (e2_cutA cl_b590_0) 4000 (e2_seek e2x_259 58) al_b590_0 [] E_b590_0 h_b590_0 = true := by decide +kernel
set_option maxRecDepth 1000000 in
theorem ci_b590_0 : e2_idl 2 (al_b590_0.set 3 (9, 0, 0)) = true := by decide +kernel
set_option maxRecDepth 1000000 in
theorem cj_b590_0 : e2_idh 2 8 h_b590_0 = true := by decide +kernel
theorem cs_b590 (hen : en_ok) (l : Launch) : e2_smOk l 8 s_b590 := by
  refine e2_conG (H := 5) (n := 2) (C := evd_259) (S := S_b590) (I := I_b590) (fuel := 4000) hen ei_259 (e2_fa (cs_b565 hen l) (e2_fa ((cs_b567 hen l).mono (by decide)) e2_fz)) (e2_fa ein_227 (e2_fa ein_232 e2_fz)) (by decide) co_b590 fun M d _ hC hcall p e R s m args below meth c Q D cA A ads r0 ha hl0 => ?_
  have L_0 : e2_gdM M p l e R s m args below meth c Q D cA A ads r0 58 al_b590_0 [] E_b590_0 h_b590_0 := by
    refine e2_indL (u := 2) (j := 3) (lo := 2147483648) (hi := 2147483668) (b := 2) (dd := 0) hl0 (by decide) rfl rfl (Or.inr ⟨rfl, rfl⟩) rfl ci_b590_0 cj_b590_0 ?_
    intro r_0 k_0 hk_0 hp_0 hs_0 hn_0
    have hl_0 : r_0.length ≤ 3 := hs_0.len rfl
    have ha_0 := ha.ext hp_0
    exact e2_fromM hen ha_0 hcall (e2_cutA_ok (e2_fa (fun al st E h hc => hn_0 al st E h hc) e2_fz)) (hC []) (X := e2x_259) ex2_259 58 ck_b590_0
  have EN_0 := e2_entL (u := 2) (j := 3) (lo := 2147483648) (hi := 2147483668) hl0 rfl rfl rfl ci_b590_0 cj_b590_0 L_0
  exact e2_from hen ha hcall (e2_cutA_ok (e2_fa (fun al st E h hc => EN_0 al st E h hc) e2_fz)) (hC []) (X := e2x_259) ex2_259 0 ck_b590_e
/-! b591 X10_change -/
def as_b591 : List ev_V := [(2, 83, 0), (11, 2147483648, 2147483649)]
def E_b591 : e2_E := [(2147483648, 2147583648, 0, 0), (2147483648, 2147483656, 1, 0)]
def bn4281 : e2_Q5 := (bn2694, bn3579)
def bn4282 : e2_Q6 := (bn4281, bn3609)
def bn4283 : e2_Q7 := (bn4282, bn4270)
def bn4284 : e2_Q5 := (bn4180, bn790)
def bn4285 : e2_Q5 := (bn4247, bn249)
def bn4286 : e2_Q6 := (bn4284, bn4285)
def bn4287 : e2_Q7 := (bn4276, bn4286)
def bn4288 : e2_Q8 := (bn4283, bn4287)
noncomputable def f_b591 : ev_H := (bn4288 : e2_Q8)
noncomputable def q_b591_0 : ev_H := (bn4288 : e2_Q8)
noncomputable def rs_b591 : e2_Rs := [((11, 2147483647, 2147483651), q_b591_0)]
noncomputable def s_b591 : e2_Sm := (260, as_b591, E_b591, f_b591, rs_b591)
noncomputable def S_b591 : List e2_Sm := [s_b551, s_b590]
noncomputable def I_b591 : List e2_In := [(216, 1, e2x_216)]
set_option maxRecDepth 1000000 in
theorem co_b591 : e2_okSB E_b591.length as_b591 f_b591 rs_b591 = true := by decide +kernel
def al_b591_0 : List ev_V := [(2, 83, 0), (11, 2147483648, 2147483649), (11, 0, 4294967295), (11, 0, 4294967295), (1, 2, 4294967296), (1, 3, 4294967296), (1, 4, 4294967296), (1, 5, 4294967296), (9, 0, 0)]
def E_b591_0 : e2_E := [(2147483648, 2147583648, 0, 0), (2147483648, 2147483656, 1, 0), (2147483649, 2147483651, 2, 0), (2147483648, 2147483667, 3, 0), (2147483648, 2147483667, 4, 0), (2147483648, 2147483668, 5, 0)]
noncomputable def h_b591_0 : ev_H := (bn4288 : e2_Q8)
def al_b591_1 : List ev_V := [(2, 83, 0), (11, 2147483648, 2147483649), (11, 0, 4294967295), (11, 0, 4294967295), (1, 2, 4294967296), (9, 0, 0), (9, 0, 0), (9, 0, 0), (9, 0, 0)]
def E_b591_1 : e2_E := [(2147483648, 2147583648, 0, 0), (2147483648, 2147483656, 1, 0), (2147483649, 2147483652, 2, 0)]
noncomputable def h_b591_1 : ev_H := (bn4288 : e2_Q8)
def al_b591_2 : List ev_V := [(2, 83, 0), (11, 2147483648, 2147483649), (11, 0, 4294967295), (11, 0, 4294967295), (1, 2, 4294967296), (1, 3, 4294967296), (9, 0, 0), (9, 0, 0), (9, 0, 0)]
def E_b591_2 : e2_E := [(2147483648, 2147583648, 0, 0), (2147483648, 2147483656, 1, 0), (2147483649, 2147483651, 2, 0), (2147483648, 2147483668, 3, 0)]
noncomputable def h_b591_2 : ev_H := (bn4288 : e2_Q8)
def al_b591_3 : List ev_V := [(2, 83, 0), (11, 2147483648, 2147483649), (11, 0, 4294967295), (11, 0, 4294967295), (1, 2, 4294967296), (1, 3, 4294967296), (1, 4, 4294967296), (9, 0, 0), (9, 0, 0)]
def E_b591_3 : e2_E := [(2147483648, 2147583648, 0, 0), (2147483648, 2147483656, 1, 0), (2147483649, 2147483651, 2, 0), (2147483648, 2147483667, 3, 0), (2147483648, 2147483668, 4, 0)]
noncomputable def h_b591_3 : ev_H := (bn4288 : e2_Q8)
noncomputable def cl_b591_e : List (Nat × e2_S) := [(40, e2_cutL (al_b591_1.set 4 (11, 2147483649, 2147483652)) 2 (E_b591_1.take 2) h_b591_1)]
set_option maxRecDepth 1000000 in
theorem ck_b591_e : e2_run (e2_cal S_b591 I_b591 4000 1) (e2_fin rs_b591) e2x_260 (e2_bpL cl_b591_e) (e2_cutA cl_b591_e) 4000 (e2_seek e2x_260 0) (e2_al 9 as_b591) [] E_b591 f_b591 = true := by decide +kernel
noncomputable def cl_b591_0 : List (Nat × e2_S) := [(109, e2_cutL (al_b591_0.set 7 (13, 13, 2147483668)) 5 (E_b591_0.take 5) h_b591_0),
  (74, e2_cutL (al_b591_3.set 6 (13, 12, 2147483668)) 4 (E_b591_3.take 4) h_b591_3)]
set_option maxRecDepth 1000000 in
theorem ck_b591_0 : e2_runM (e2_cal S_b591 I_b591 4000 1) (e2_fin rs_b591) e2x_260 (e2_bpL cl_b591_0) (e2_cutA cl_b591_0) 4000 (e2_seek e2x_260 109) al_b591_0 [] E_b591_0 h_b591_0 = true := by decide +kernel
set_option maxRecDepth 1000000 in
theorem ci_b591_0 : e2_idl 5 (al_b591_0.set 7 (9, 0, 0)) = true := by decide +kernel
set_option maxRecDepth 1000000 in
theorem cj_b591_0 : e2_idh 5 8 h_b591_0 = true := by decide +kernel
noncomputable def cl_b591_1 : List (Nat × e2_S) := [(49, e2_cutL (al_b591_2.set 5 (11, 2147483648, 2147483668)) 3 (E_b591_2.take 3) h_b591_2)]
set_option maxRecDepth 1000000 in
theorem ck_b591_1 : e2_runM (e2_cal S_b591 I_b591 4000 1) (e2_fin rs_b591) e2x_260 (e2_bpL cl_b591_1) (e2_cutA cl_b591_1) 4000 (e2_seek e2x_260 40) al_b591_1 [] E_b591_1 h_b591_1 = true := by decide +kernel
set_option maxRecDepth 1000000 in
theorem ci_b591_1 : e2_idl 2 (al_b591_1.set 4 (9, 0, 0)) = true := by decide +kernel
set_option maxRecDepth 1000000 in
theorem cj_b591_1 : e2_idh 2 8 h_b591_1 = true := by decide +kernel
noncomputable def cl_b591_2 : List (Nat × e2_S) := [(40, e2_cutL (al_b591_1.set 4 (13, 10, 2147483652)) 2 (E_b591_1.take 2) h_b591_1),
  (74, e2_cutL (al_b591_3.set 6 (11, 2147483648, 2147483668)) 4 (E_b591_3.take 4) h_b591_3)]
set_option maxRecDepth 1000000 in
theorem ck_b591_2 : e2_runM (e2_cal S_b591 I_b591 4000 1) (e2_fin rs_b591) e2x_260 (e2_bpL cl_b591_2) (e2_cutA cl_b591_2) 4000 (e2_seek e2x_260 49) al_b591_2 [] E_b591_2 h_b591_2 = true := by decide +kernel
set_option maxRecDepth 1000000 in
theorem ci_b591_2 : e2_idl 3 (al_b591_2.set 5 (9, 0, 0)) = true := by decide +kernel
set_option maxRecDepth 1000000 in
theorem cj_b591_2 : e2_idh 3 8 h_b591_2 = true := by decide +kernel
noncomputable def cl_b591_3 : List (Nat × e2_S) := [(109, e2_cutL (al_b591_0.set 7 (11, 2147483648, 2147483668)) 5 (E_b591_0.take 5) h_b591_0),
  (49, e2_cutL (al_b591_2.set 5 (13, 11, 2147483668)) 3 (E_b591_2.take 3) h_b591_2)]
set_option maxRecDepth 1000000 in
theorem ck_b591_3 : e2_runM (e2_cal S_b591 I_b591 4000 1) (e2_fin rs_b591) e2x_260 (e2_bpL cl_b591_3) (e2_cutA cl_b591_3) 4000 (e2_seek e2x_260 74) al_b591_3 [] E_b591_3 h_b591_3 = true := by decide +kernel
set_option maxRecDepth 1000000 in
theorem ci_b591_3 : e2_idl 4 (al_b591_3.set 6 (9, 0, 0)) = true := by decide +kernel
set_option maxRecDepth 1000000 in
theorem cj_b591_3 : e2_idh 4 8 h_b591_3 = true := by decide +kernel
theorem cs_b591 (hen : en_ok) (l : Launch) : e2_smOk l 10 s_b591 := by
  refine e2_conG (H := 8) (n := 1) (C := evd_260) (S := S_b591) (I := I_b591) (fuel := 4000) hen ei_260 (e2_fa ((cs_b551 hen l).mono (by decide)) (e2_fa (cs_b590 hen l) e2_fz)) (e2_fa ein_216 e2_fz) (by decide) co_b591 fun M d _ hC hcall p e R s m args below meth c Q D cA A ads r0 ha hl0 => ?_
  have L_1 : e2_gdM M p l e R s m args below meth c Q D cA A ads r0 40 al_b591_1 [] E_b591_1 h_b591_1 := by
    refine e2_indL (u := 2) (j := 4) (lo := 2147483649) (hi := 2147483652) (b := 2) (dd := 0) hl0 (by decide) rfl rfl (Or.inr ⟨rfl, rfl⟩) rfl ci_b591_1 cj_b591_1 ?_
    intro r_1 k_1 hk_1 hp_1 hs_1 hn_1
    have hl_1 : r_1.length ≤ 3 := hs_1.len rfl
    have ha_1 := ha.ext hp_1
    have L_2 : e2_gdM M p l e R s m args below meth c Q D cA A ads r_1 49 al_b591_2 [] E_b591_2 h_b591_2 := by
      refine e2_indL (u := 3) (j := 5) (lo := 2147483648) (hi := 2147483668) (b := 3) (dd := 0) hl_1 (by decide) rfl rfl (Or.inr ⟨rfl, rfl⟩) rfl ci_b591_2 cj_b591_2 ?_
      intro r_2 k_2 hk_2 hp_2 hs_2 hn_2
      have hl_2 : r_2.length ≤ 4 := hs_2.len rfl
      have ha_2 := ha_1.ext hp_2
      have L_3 : e2_gdM M p l e R s m args below meth c Q D cA A ads r_2 74 al_b591_3 [] E_b591_3 h_b591_3 := by
        refine e2_indL (u := 4) (j := 6) (lo := 2147483648) (hi := 2147483668) (b := 4) (dd := 0) hl_2 (by decide) rfl rfl (Or.inr ⟨rfl, rfl⟩) rfl ci_b591_3 cj_b591_3 ?_
        intro r_3 k_3 hk_3 hp_3 hs_3 hn_3
        have hl_3 : r_3.length ≤ 5 := hs_3.len rfl
        have ha_3 := ha_2.ext hp_3
        have L_0 : e2_gdM M p l e R s m args below meth c Q D cA A ads r_3 109 al_b591_0 [] E_b591_0 h_b591_0 := by
          refine e2_indL (u := 5) (j := 7) (lo := 2147483648) (hi := 2147483668) (b := 5) (dd := 0) hl_3 (by decide) rfl rfl (Or.inr ⟨rfl, rfl⟩) rfl ci_b591_0 cj_b591_0 ?_
          intro r_0 k_0 hk_0 hp_0 hs_0 hn_0
          have hl_0 : r_0.length ≤ 6 := hs_0.len rfl
          have ha_0 := ha_3.ext hp_0
          exact e2_fromM hen ha_0 hcall (e2_cutA_ok (e2_fa (fun al st E h hc => hn_0 al st E h hc) (e2_fa (fun al st E h hc => (hn_3 al st E h hc).ext hp_0) e2_fz))) (hC []) (X := e2x_260) ex2_260 109 ck_b591_0
        have EN_0 := e2_entL (u := 5) (j := 7) (lo := 2147483648) (hi := 2147483668) hl_3 rfl rfl rfl ci_b591_0 cj_b591_0 L_0
        exact e2_fromM hen ha_3 hcall (e2_cutA_ok (e2_fa (fun al st E h hc => EN_0 al st E h hc) (e2_fa (fun al st E h hc => (hn_2 al st E h hc).ext hp_3) e2_fz))) (hC []) (X := e2x_260) ex2_260 74 ck_b591_3
      have EN_3 := e2_entL (u := 4) (j := 6) (lo := 2147483648) (hi := 2147483668) hl_2 rfl rfl rfl ci_b591_3 cj_b591_3 L_3
      exact e2_fromM hen ha_2 hcall (e2_cutA_ok (e2_fa (fun al st E h hc => (hn_1 al st E h hc).ext hp_2) (e2_fa (fun al st E h hc => EN_3 al st E h hc) e2_fz))) (hC []) (X := e2x_260) ex2_260 49 ck_b591_2
    have EN_2 := e2_entL (u := 3) (j := 5) (lo := 2147483648) (hi := 2147483668) hl_1 rfl rfl rfl ci_b591_2 cj_b591_2 L_2
    exact e2_fromM hen ha_1 hcall (e2_cutA_ok (e2_fa (fun al st E h hc => EN_2 al st E h hc) e2_fz)) (hC []) (X := e2x_260) ex2_260 40 ck_b591_1
  have EN_1 := e2_entL (u := 2) (j := 4) (lo := 2147483649) (hi := 2147483652) hl0 rfl rfl rfl ci_b591_1 cj_b591_1 L_1
  exact e2_from hen ha hcall (e2_cutA_ok (e2_fa (fun al st E h hc => EN_1 al st E h hc) e2_fz)) (hC []) (X := e2x_260) ex2_260 0 ck_b591_e
/-! b592 X10_turn -/
def as_b592 : List ev_V := [(2, 83, 0), (11, 0, 4294967295), (11, 0, 4294967295)]
def E_b592 : e2_E := [(2147483648, 2147583648, 0, 0), (2147483648, 2147483656, 1, 0)]
def bn4289 : e2_Q6 := (bn4275, bn4163)
def bn4290 : e2_Q3 := (bn796, bn4245)
def bn4291 : e2_Q4 := (bn226, bn4290)
def bn4292 : e2_Q5 := (bn4291, bn727)
def bn4293 : e2_Q6 := (bn4181, bn4292)
def bn4294 : e2_Q7 := (bn4289, bn4293)
def bn4295 : e2_Q8 := (bn4161, bn4294)
noncomputable def f_b592 : ev_H := (bn4295 : e2_Q8)
noncomputable def q_b592_0 : ev_H := (bn4295 : e2_Q8)
noncomputable def rs_b592 : e2_Rs := [((11, 2147483647, 2147483651), q_b592_0)]
noncomputable def s_b592 : e2_Sm := (261, as_b592, E_b592, f_b592, rs_b592)
noncomputable def S_b592 : List e2_Sm := [s_b553, s_b591]
noncomputable def I_b592 : List e2_In := [(212, 3, e2x_212), (220, 2, e2x_220)]
set_option maxRecDepth 1000000 in
theorem ck_b592 : e2_run (e2_cal S_b592 I_b592 4000 2) (e2_fin rs_b592) e2x_261 (fun _ => false) (fun _ _ _ _ _ => false) 4000 (e2_seek e2x_261 0) (e2_al 3 as_b592) [] E_b592 f_b592 = true := by decide +kernel
set_option maxRecDepth 1000000 in
theorem co_b592 : e2_okSB E_b592.length as_b592 f_b592 rs_b592 = true := by decide +kernel
theorem cs_b592 (hen : en_ok) (l : Launch) (hh : e2_hand_b l) : e2_smOk l 65 s_b592 := e2_con0 (H := 62) (n := 2) (C := evd_261) (S := S_b592) (I := I_b592) (fuel := 4000) [] hen ei_261 (e2_fa (cs_b553 hen l hh) (e2_fa ((cs_b591 hen l).mono (by decide)) e2_fz)) (e2_fa ein_212 (e2_fa ein_220 e2_fz)) (by decide) co_b592 ex2_261 ck_b592
/-! b593 X10_plain -/
def as_b593 : List ev_V := [(2, 83, 0)]
def E_b593 : e2_E := [(2147483648, 2147583648, 0, 0), (2147483648, 2147483656, 1, 0)]
def bn4296 : e2_Q6 := (bn4181, bn4248)
def bn4297 : e2_Q7 := (bn4289, bn4296)
def bn4298 : e2_Q8 := (bn4161, bn4297)
noncomputable def f_b593 : ev_H := (bn4298 : e2_Q8)
noncomputable def q_b593_0 : ev_H := (bn4298 : e2_Q8)
noncomputable def rs_b593 : e2_Rs := [((11, 2147483647, 2147483651), q_b593_0)]
noncomputable def s_b593 : e2_Sm := (262, as_b593, E_b593, f_b593, rs_b593)
noncomputable def S_b593 : List e2_Sm := [s_b566, s_b591]
noncomputable def I_b593 : List e2_In := []
set_option maxRecDepth 1000000 in
theorem co_b593 : e2_okSB E_b593.length as_b593 f_b593 rs_b593 = true := by decide +kernel
def al_b593_0 : List ev_V := [(2, 83, 0), (1, 2, 4294967296)]
def E_b593_0 : e2_E := [(2147483648, 2147583648, 0, 0), (2147483648, 2147483656, 1, 0), (2147483648, 2147483668, 2, 0)]
noncomputable def h_b593_0 : ev_H := (bn4298 : e2_Q8)
noncomputable def cl_b593_e : List (Nat × e2_S) := [(24, e2_cutL (al_b593_0.set 1 (11, 2147483648, 2147483668)) 2 (E_b593_0.take 2) h_b593_0)]
set_option maxRecDepth 1000000 in
theorem ck_b593_e : e2_run (e2_cal S_b593 I_b593 4000 0) (e2_fin rs_b593) e2x_262 (e2_bpL cl_b593_e) (e2_cutA cl_b593_e) 4000 (e2_seek e2x_262 0) (e2_al 2 as_b593) [] E_b593 f_b593 = true := by decide +kernel
noncomputable def cl_b593_0 : List (Nat × e2_S) := [(24, e2_cutL (al_b593_0.set 1 (13, 10, 2147483668)) 2 (E_b593_0.take 2) h_b593_0)]
set_option maxRecDepth 1000000 in
theorem ck_b593_0 : e2_runM (e2_cal S_b593 I_b593 4000 0) (e2_fin rs_b593) e2x_262 (e2_bpL cl_b593_0) (e2_cutA cl_b593_0) 4000 (e2_seek e2x_262 24) al_b593_0 [] E_b593_0 h_b593_0 = true := by decide +kernel
set_option maxRecDepth 1000000 in
theorem ci_b593_0 : e2_idl 2 (al_b593_0.set 1 (9, 0, 0)) = true := by decide +kernel
set_option maxRecDepth 1000000 in
theorem cj_b593_0 : e2_idh 2 8 h_b593_0 = true := by decide +kernel
theorem cs_b593 (hen : en_ok) (l : Launch) (hh : e2_hand_b l) : e2_smOk l 64 s_b593 := by
  refine e2_conG (H := 63) (n := 0) (C := evd_262) (S := S_b593) (I := I_b593) (fuel := 4000) hen ei_262 (e2_fa (cs_b566 hen l hh) (e2_fa ((cs_b591 hen l).mono (by decide)) e2_fz)) e2_fz (by decide) co_b593 fun M d _ hC hcall p e R s m args below meth c Q D cA A ads r0 ha hl0 => ?_
  have L_0 : e2_gdM M p l e R s m args below meth c Q D cA A ads r0 24 al_b593_0 [] E_b593_0 h_b593_0 := by
    refine e2_indL (u := 2) (j := 1) (lo := 2147483648) (hi := 2147483668) (b := 2) (dd := 0) hl0 (by decide) rfl rfl (Or.inr ⟨rfl, rfl⟩) rfl ci_b593_0 cj_b593_0 ?_
    intro r_0 k_0 hk_0 hp_0 hs_0 hn_0
    have hl_0 : r_0.length ≤ 3 := hs_0.len rfl
    have ha_0 := ha.ext hp_0
    exact e2_fromM hen ha_0 hcall (e2_cutA_ok (e2_fa (fun al st E h hc => hn_0 al st E h hc) e2_fz)) (hC []) (X := e2x_262) ex2_262 24 ck_b593_0
  have EN_0 := e2_entL (u := 2) (j := 1) (lo := 2147483648) (hi := 2147483668) hl0 rfl rfl rfl ci_b593_0 cj_b593_0 L_0
  exact e2_from hen ha hcall (e2_cutA_ok (e2_fa (fun al st E h hc => EN_0 al st E h hc) e2_fz)) (hC []) (X := e2x_262) ex2_262 0 ck_b593_e
/-! b594 X10_isWritten -/
def as_b594 : List ev_V := [(2, 83, 0), (0, 1, 0)]
def E_b594 : e2_E := [(2147483648, 2147583648, 0, 0), (2147483648, 2147483656, 1, 0)]
def bc299 : ev_C := (50, [(11, 2147483648, 2147483655), (0, 4294967295, 0), (0, 4294967295, 0)])
def bn4299 : e2_Q1 := (bc299, bc3)
def bn4300 : e2_Q2 := (bn56, bn4299)
def bn4301 : e2_Q3 := (bn335, bn4300)
def bn4302 : e2_Q4 := (bn333, bn4301)
def bn4303 : e2_Q5 := (bn3608, bn4302)
def bn4304 : e2_Q6 := (bn3580, bn4303)
def bn4305 : e2_Q7 := (bn4304, bn3587)
def bc300 : ev_C := (54, [(0, 3, 0), (11, 0, 4294967295)])
def bn4306 : e2_Q1 := (bc300, bc3)
def bn4307 : e2_Q2 := (bn182, bn4306)
def bn4308 : e2_Q3 := (bn181, bn4307)
def bn4309 : e2_Q4 := (bn354, bn4308)
def bn4310 : e2_Q5 := (bn3620, bn4309)
def bn4311 : e2_Q6 := (bn3575, bn4310)
def bn4312 : e2_Q5 := (bn3592, bn790)
def bn4313 : e2_Q6 := (bn4312, bn250)
def bn4314 : e2_Q7 := (bn4311, bn4313)
def bn4315 : e2_Q8 := (bn4305, bn4314)
noncomputable def f_b594 : ev_H := (bn4315 : e2_Q8)
noncomputable def q_b594_0 : ev_H := (bn4315 : e2_Q8)
noncomputable def rs_b594 : e2_Rs := [((11, 2147483648, 2147483649), q_b594_0)]
noncomputable def s_b594 : e2_Sm := (266, as_b594, E_b594, f_b594, rs_b594)
noncomputable def S_b594 : List e2_Sm := [s_b565]
noncomputable def I_b594 : List e2_In := [(227, 2, e2x_227), (232, 1, e2x_232)]
set_option maxRecDepth 1000000 in
theorem ck_b594 : e2_run (e2_cal S_b594 I_b594 4000 2) (e2_fin rs_b594) e2x_266 (fun _ => false) (fun _ _ _ _ _ => false) 4000 (e2_seek e2x_266 0) (e2_al 4 as_b594) [] E_b594 f_b594 = true := by decide +kernel
set_option maxRecDepth 1000000 in
theorem co_b594 : e2_okSB E_b594.length as_b594 f_b594 rs_b594 = true := by decide +kernel
theorem cs_b594 (hen : en_ok) (l : Launch) : e2_smOk l 8 s_b594 := e2_con0 (H := 5) (n := 2) (C := evd_266) (S := S_b594) (I := I_b594) (fuel := 4000) [] hen ei_266 (e2_fa (cs_b565 hen l) e2_fz) (e2_fa ein_227 (e2_fa ein_232 e2_fz)) (by decide) co_b594 ex2_266 ck_b594
/-! b595 X10_isWritten -/
def as_b595 : List ev_V := [(2, 83, 0), (0, 2, 0)]
def E_b595 : e2_E := [(2147483648, 2147583648, 0, 0), (2147483648, 2147483656, 1, 0)]
def bc301 : ev_C := (50, [(11, 2147483648, 2147483655), (11, 2147483648, 2147483655), (0, 4294967295, 0)])
def bn4316 : e2_Q1 := (bc301, bc3)
def bn4317 : e2_Q2 := (bn56, bn4316)
def bn4318 : e2_Q3 := (bn335, bn4317)
def bn4319 : e2_Q4 := (bn333, bn4318)
def bn4320 : e2_Q5 := (bn3608, bn4319)
def bn4321 : e2_Q6 := (bn3580, bn4320)
def bn4322 : e2_Q7 := (bn4321, bn3587)
def bn4323 : e2_Q8 := (bn4322, bn4314)
noncomputable def f_b595 : ev_H := (bn4323 : e2_Q8)
noncomputable def q_b595_0 : ev_H := (bn4323 : e2_Q8)
noncomputable def rs_b595 : e2_Rs := [((11, 2147483648, 2147483649), q_b595_0)]
noncomputable def s_b595 : e2_Sm := (266, as_b595, E_b595, f_b595, rs_b595)
noncomputable def S_b595 : List e2_Sm := [s_b565]
noncomputable def I_b595 : List e2_In := [(227, 2, e2x_227), (232, 1, e2x_232)]
set_option maxRecDepth 1000000 in
theorem ck_b595 : e2_run (e2_cal S_b595 I_b595 4000 2) (e2_fin rs_b595) e2x_266 (fun _ => false) (fun _ _ _ _ _ => false) 4000 (e2_seek e2x_266 0) (e2_al 4 as_b595) [] E_b595 f_b595 = true := by decide +kernel
set_option maxRecDepth 1000000 in
theorem co_b595 : e2_okSB E_b595.length as_b595 f_b595 rs_b595 = true := by decide +kernel
theorem cs_b595 (hen : en_ok) (l : Launch) : e2_smOk l 8 s_b595 := e2_con0 (H := 5) (n := 2) (C := evd_266) (S := S_b595) (I := I_b595) (fuel := 4000) [] hen ei_266 (e2_fa (cs_b565 hen l) e2_fz) (e2_fa ein_227 (e2_fa ein_232 e2_fz)) (by decide) co_b595 ex2_266 ck_b595
/-! b596 X10_isWritten -/
def as_b596 : List ev_V := [(2, 83, 0), (0, 3, 0)]
def E_b596 : e2_E := [(2147483648, 2147583648, 0, 0), (2147483648, 2147483656, 1, 0)]
def bc302 : ev_C := (50, [(11, 2147483648, 2147483655), (11, 2147483648, 2147483655), (11, 2147483648, 2147483655)])
def bn4324 : e2_Q1 := (bc302, bc3)
def bn4325 : e2_Q2 := (bn56, bn4324)
def bn4326 : e2_Q3 := (bn335, bn4325)
def bn4327 : e2_Q4 := (bn333, bn4326)
def bn4328 : e2_Q5 := (bn3608, bn4327)
def bn4329 : e2_Q6 := (bn3580, bn4328)
def bn4330 : e2_Q7 := (bn4329, bn3587)
def bn4331 : e2_Q8 := (bn4330, bn4314)
noncomputable def f_b596 : ev_H := (bn4331 : e2_Q8)
noncomputable def q_b596_0 : ev_H := (bn4331 : e2_Q8)
noncomputable def rs_b596 : e2_Rs := [((11, 2147483648, 2147483649), q_b596_0)]
noncomputable def s_b596 : e2_Sm := (266, as_b596, E_b596, f_b596, rs_b596)
noncomputable def S_b596 : List e2_Sm := [s_b565]
noncomputable def I_b596 : List e2_In := [(227, 2, e2x_227), (232, 1, e2x_232)]
set_option maxRecDepth 1000000 in
theorem ck_b596 : e2_run (e2_cal S_b596 I_b596 4000 2) (e2_fin rs_b596) e2x_266 (fun _ => false) (fun _ _ _ _ _ => false) 4000 (e2_seek e2x_266 0) (e2_al 4 as_b596) [] E_b596 f_b596 = true := by decide +kernel
set_option maxRecDepth 1000000 in
theorem co_b596 : e2_okSB E_b596.length as_b596 f_b596 rs_b596 = true := by decide +kernel
theorem cs_b596 (hen : en_ok) (l : Launch) : e2_smOk l 8 s_b596 := e2_con0 (H := 5) (n := 2) (C := evd_266) (S := S_b596) (I := I_b596) (fuel := 4000) [] hen ei_266 (e2_fa (cs_b565 hen l) e2_fz) (e2_fa ein_227 (e2_fa ein_232 e2_fz)) (by decide) co_b596 ex2_266 ck_b596
/-! b597 X10_isPlaced -/
def as_b597 : List ev_V := [(2, 83, 0), (11, 2147483648, 2147483667), (0, 1, 0)]
def E_b597 : e2_E := [(2147483648, 2147583648, 0, 0), (2147483648, 2147483656, 1, 0)]
def bn4332 : e2_Q5 := (bn45, bn4302)
def bn4333 : e2_Q6 := (bn30, bn4332)
def bn4334 : e2_Q7 := (bn4333, bn3555)
def bn4335 : e2_Q5 := (bn734, bn4309)
def bn4336 : e2_Q6 := (bn351, bn4335)
def bn4337 : e2_Q7 := (bn4336, bn3558)
def bn4338 : e2_Q8 := (bn4334, bn4337)
noncomputable def f_b597 : ev_H := (bn4338 : e2_Q8)
noncomputable def q_b597_0 : ev_H := (bn4338 : e2_Q8)
noncomputable def rs_b597 : e2_Rs := [((11, 2147483648, 2147483649), q_b597_0)]
noncomputable def s_b597 : e2_Sm := (268, as_b597, E_b597, f_b597, rs_b597)
noncomputable def S_b597 : List e2_Sm := []
noncomputable def I_b597 : List e2_In := [(216, 1, e2x_216), (267, 2, e2x_267)]
set_option maxRecDepth 1000000 in
theorem ck_b597 : e2_run (e2_cal S_b597 I_b597 4000 1) (e2_fin rs_b597) e2x_268 (fun _ => false) (fun _ _ _ _ _ => false) 4000 (e2_seek e2x_268 0) (e2_al 5 as_b597) [] E_b597 f_b597 = true := by decide +kernel
set_option maxRecDepth 1000000 in
theorem co_b597 : e2_okSB E_b597.length as_b597 f_b597 rs_b597 = true := by decide +kernel
theorem cs_b597 (hen : en_ok) (l : Launch) : e2_smOk l 2 s_b597 := e2_con0 (H := 0) (n := 1) (C := evd_268) (S := S_b597) (I := I_b597) (fuel := 4000) [] hen ei_268 e2_fz (e2_fa ein_216 (e2_fa ein_267 e2_fz)) (by decide) co_b597 ex2_268 ck_b597
/-! b598 X10_isPlaced -/
def as_b598 : List ev_V := [(2, 83, 0), (11, 2147483648, 2147484160), (0, 2, 0)]
def E_b598 : e2_E := [(2147483648, 2147583648, 0, 0), (2147483648, 2147483656, 1, 0)]
def bn4339 : e2_Q5 := (bn45, bn4319)
def bn4340 : e2_Q6 := (bn30, bn4339)
def bn4341 : e2_Q7 := (bn4340, bn3555)
def bn4342 : e2_Q8 := (bn4341, bn4337)
noncomputable def f_b598 : ev_H := (bn4342 : e2_Q8)
noncomputable def q_b598_0 : ev_H := (bn4342 : e2_Q8)
noncomputable def rs_b598 : e2_Rs := [((11, 2147483648, 2147483649), q_b598_0)]
noncomputable def s_b598 : e2_Sm := (268, as_b598, E_b598, f_b598, rs_b598)
noncomputable def S_b598 : List e2_Sm := []
noncomputable def I_b598 : List e2_In := [(216, 1, e2x_216), (267, 2, e2x_267)]
set_option maxRecDepth 1000000 in
theorem ck_b598 : e2_run (e2_cal S_b598 I_b598 4000 1) (e2_fin rs_b598) e2x_268 (fun _ => false) (fun _ _ _ _ _ => false) 4000 (e2_seek e2x_268 0) (e2_al 5 as_b598) [] E_b598 f_b598 = true := by decide +kernel
set_option maxRecDepth 1000000 in
theorem co_b598 : e2_okSB E_b598.length as_b598 f_b598 rs_b598 = true := by decide +kernel
theorem cs_b598 (hen : en_ok) (l : Launch) : e2_smOk l 2 s_b598 := e2_con0 (H := 0) (n := 1) (C := evd_268) (S := S_b598) (I := I_b598) (fuel := 4000) [] hen ei_268 e2_fz (e2_fa ein_216 (e2_fa ein_267 e2_fz)) (by decide) co_b598 ex2_268 ck_b598
/-! b599 X10_isPlaced -/
def as_b599 : List ev_V := [(2, 83, 0), (11, 2147483648, 2147493647), (0, 3, 0)]
def E_b599 : e2_E := [(2147483648, 2147583648, 0, 0), (2147483648, 2147483656, 1, 0)]
def bn4343 : e2_Q5 := (bn45, bn4327)
def bn4344 : e2_Q6 := (bn30, bn4343)
def bn4345 : e2_Q7 := (bn4344, bn3555)
def bn4346 : e2_Q8 := (bn4345, bn4337)
noncomputable def f_b599 : ev_H := (bn4346 : e2_Q8)
noncomputable def q_b599_0 : ev_H := (bn4346 : e2_Q8)
noncomputable def rs_b599 : e2_Rs := [((11, 2147483648, 2147483649), q_b599_0)]
noncomputable def s_b599 : e2_Sm := (268, as_b599, E_b599, f_b599, rs_b599)
noncomputable def S_b599 : List e2_Sm := []
noncomputable def I_b599 : List e2_In := [(216, 1, e2x_216), (267, 2, e2x_267)]
set_option maxRecDepth 1000000 in
theorem ck_b599 : e2_run (e2_cal S_b599 I_b599 4000 1) (e2_fin rs_b599) e2x_268 (fun _ => false) (fun _ _ _ _ _ => false) 4000 (e2_seek e2x_268 0) (e2_al 5 as_b599) [] E_b599 f_b599 = true := by decide +kernel
set_option maxRecDepth 1000000 in
theorem co_b599 : e2_okSB E_b599.length as_b599 f_b599 rs_b599 = true := by decide +kernel
theorem cs_b599 (hen : en_ok) (l : Launch) : e2_smOk l 2 s_b599 := e2_con0 (H := 0) (n := 1) (C := evd_268) (S := S_b599) (I := I_b599) (fuel := 4000) [] hen ei_268 e2_fz (e2_fa ein_216 (e2_fa ein_267 e2_fz)) (by decide) co_b599 ex2_268 ck_b599
/-! b600 X10_write -/
def as_b600 : List ev_V := [(2, 83, 0), (11, 0, 4294967295), (11, 0, 4294967295), (11, 0, 4294967295)]
def E_b600 : e2_E := [(2147483648, 2147583648, 0, 0), (2147483648, 2147483656, 1, 0)]
def bc303 : ev_C := (50, [(11, 2147483647, 2147483655), (11, 2147483647, 2147483655), (11, 2147483647, 2147483655)])
def bn4347 : e2_Q1 := (bc303, bc3)
def bn4348 : e2_Q2 := (bn56, bn4347)
def bn4349 : e2_Q3 := (bn335, bn4348)
def bn4350 : e2_Q4 := (bn52, bn4349)
def bn4351 : e2_Q5 := (bn3608, bn4350)
def bn4352 : e2_Q6 := (bn2695, bn4351)
def bn4353 : e2_Q7 := (bn4352, bn4160)
def bn4354 : e2_Q5 := (bn4162, bn4309)
def bn4355 : e2_Q6 := (bn3575, bn4354)
def bn4356 : e2_Q7 := (bn4355, bn4249)
def bn4357 : e2_Q8 := (bn4353, bn4356)
noncomputable def f_b600 : ev_H := (bn4357 : e2_Q8)
noncomputable def q_b600_0 : ev_H := (bn4357 : e2_Q8)
noncomputable def rs_b600 : e2_Rs := [((11, 2147483647, 2147483744), q_b600_0)]
noncomputable def s_b600 : e2_Sm := (269, as_b600, E_b600, f_b600, rs_b600)
noncomputable def S_b600 : List e2_Sm := [s_b167, s_b553, s_b594, s_b595, s_b596, s_b597, s_b598, s_b599]
noncomputable def I_b600 : List e2_In := [(212, 3, e2x_212), (216, 1, e2x_216), (217, 1, e2x_217), (219, 2, e2x_219)]
set_option maxRecDepth 1000000 in
theorem co_b600 : e2_okSB E_b600.length as_b600 f_b600 rs_b600 = true := by decide +kernel
def al_b600_0 : List ev_V := [(2, 83, 0), (11, 2147483648, 2147483655), (0, 4294967295, 0), (0, 4294967295, 0), (0, 1, 0), (11, 2147483652, 2147483668), (11, 2147483648, 2147483680), (1, 2, 4294967296), (9, 0, 0)]
def E_b600_0 : e2_E := [(2147483648, 2147583648, 0, 0), (2147483649, 2147483656, 1, 0), (2147483648, 2147483668, 2, 0)]
def bn4358 : e2_Q4 := (bn52, bn4301)
def bn4359 : e2_Q5 := (bn3608, bn4358)
def bn4360 : e2_Q6 := (bn2695, bn4359)
def bn4361 : e2_Q7 := (bn4360, bn4160)
def bn4362 : e2_Q8 := (bn4361, bn4356)
noncomputable def h_b600_0 : ev_H := (bn4362 : e2_Q8)
def al_b600_1 : List ev_V := [(2, 83, 0), (11, 2147483648, 2147483655), (11, 2147483648, 2147483655), (0, 4294967295, 0), (0, 2, 0), (11, 2147483664, 2147484048), (11, 2147483648, 2147483712), (1, 2, 4294967296), (9, 0, 0)]
def E_b600_1 : e2_E := [(2147483648, 2147583648, 0, 0), (2147483649, 2147483656, 1, 0), (2147483648, 2147484048, 2, 0)]
def bn4363 : e2_Q4 := (bn52, bn4318)
def bn4364 : e2_Q5 := (bn3608, bn4363)
def bn4365 : e2_Q6 := (bn2695, bn4364)
def bn4366 : e2_Q7 := (bn4365, bn4160)
def bn4367 : e2_Q8 := (bn4366, bn4356)
noncomputable def h_b600_1 : ev_H := (bn4367 : e2_Q8)
def al_b600_2 : List ev_V := [(2, 83, 0), (11, 2147483648, 2147483655), (11, 2147483648, 2147483655), (11, 2147483648, 2147483655), (0, 3, 0), (11, 2147483712, 2147491648), (11, 2147483648, 2147483744), (1, 2, 4294967296), (9, 0, 0)]
def E_b600_2 : e2_E := [(2147483648, 2147583648, 0, 0), (2147483649, 2147483656, 1, 0), (2147483648, 2147491648, 2, 0)]
def bn4368 : e2_Q4 := (bn52, bn4326)
def bn4369 : e2_Q5 := (bn3608, bn4368)
def bn4370 : e2_Q6 := (bn2695, bn4369)
def bn4371 : e2_Q7 := (bn4370, bn4160)
def bn4372 : e2_Q8 := (bn4371, bn4356)
noncomputable def h_b600_2 : ev_H := (bn4372 : e2_Q8)
noncomputable def cl_b600_e : List (Nat × e2_S) := [(154, e2_cutL (al_b600_0.set 7 (11, 2147483648, 2147483668)) 2 (E_b600_0.take 2) h_b600_0),
  (154, e2_cutL (al_b600_1.set 7 (11, 2147483648, 2147484048)) 2 (E_b600_1.take 2) h_b600_1),
  (154, e2_cutL (al_b600_2.set 7 (11, 2147483648, 2147491648)) 2 (E_b600_2.take 2) h_b600_2)]
set_option maxRecDepth 1000000 in
theorem ck_b600_e : e2_run (e2_cal S_b600 I_b600 4000 2) (e2_fin rs_b600) e2x_269 (e2_bpL cl_b600_e) (e2_cutA cl_b600_e) 4000 (e2_seek e2x_269 0) (e2_al 9 as_b600) [] E_b600 f_b600 = true := by decide +kernel
noncomputable def cl_b600_0 : List (Nat × e2_S) := [(154, e2_cutL (al_b600_0.set 7 (13, 10, 2147483668)) 2 (E_b600_0.take 2) h_b600_0)]
set_option maxRecDepth 1000000 in
theorem ck_b600_0 : e2_runM (e2_cal S_b600 I_b600 4000 2) (e2_fin rs_b600) e2x_269 (e2_bpL cl_b600_0) (e2_cutA cl_b600_0) 4000 (e2_seek e2x_269 154) al_b600_0 [] E_b600_0 h_b600_0 = true := by decide +kernel
set_option maxRecDepth 1000000 in
theorem ci_b600_0 : e2_idl 2 (al_b600_0.set 7 (9, 0, 0)) = true := by decide +kernel
set_option maxRecDepth 1000000 in
theorem cj_b600_0 : e2_idh 2 8 h_b600_0 = true := by decide +kernel
noncomputable def cl_b600_1 : List (Nat × e2_S) := [(154, e2_cutL (al_b600_1.set 7 (13, 10, 2147484048)) 2 (E_b600_1.take 2) h_b600_1)]
set_option maxRecDepth 1000000 in
theorem ck_b600_1 : e2_runM (e2_cal S_b600 I_b600 4000 2) (e2_fin rs_b600) e2x_269 (e2_bpL cl_b600_1) (e2_cutA cl_b600_1) 4000 (e2_seek e2x_269 154) al_b600_1 [] E_b600_1 h_b600_1 = true := by decide +kernel
set_option maxRecDepth 1000000 in
theorem ci_b600_1 : e2_idl 2 (al_b600_1.set 7 (9, 0, 0)) = true := by decide +kernel
set_option maxRecDepth 1000000 in
theorem cj_b600_1 : e2_idh 2 8 h_b600_1 = true := by decide +kernel
noncomputable def cl_b600_2 : List (Nat × e2_S) := [(154, e2_cutL (al_b600_2.set 7 (13, 10, 2147491648)) 2 (E_b600_2.take 2) h_b600_2)]
set_option maxRecDepth 1000000 in
theorem ck_b600_2 : e2_runM (e2_cal S_b600 I_b600 4000 2) (e2_fin rs_b600) e2x_269 (e2_bpL cl_b600_2) (e2_cutA cl_b600_2) 4000 (e2_seek e2x_269 154) al_b600_2 [] E_b600_2 h_b600_2 = true := by decide +kernel
set_option maxRecDepth 1000000 in
theorem ci_b600_2 : e2_idl 2 (al_b600_2.set 7 (9, 0, 0)) = true := by decide +kernel
set_option maxRecDepth 1000000 in
theorem cj_b600_2 : e2_idh 2 8 h_b600_2 = true := by decide +kernel
theorem cs_b600 (hen : en_ok) (l : Launch) (hh : e2_hand_b l) : e2_smOk l 65 s_b600 := by
  refine e2_conG (H := 62) (n := 2) (C := evd_269) (S := S_b600) (I := I_b600) (fuel := 4000) hen ei_269 (e2_fa (hh _ hm_b167) (e2_fa (cs_b553 hen l hh) (e2_fa ((cs_b594 hen l).mono (by decide)) (e2_fa ((cs_b595 hen l).mono (by decide)) (e2_fa ((cs_b596 hen l).mono (by decide)) (e2_fa ((cs_b597 hen l).mono (by decide)) (e2_fa ((cs_b598 hen l).mono (by decide)) (e2_fa ((cs_b599 hen l).mono (by decide)) e2_fz)))))))) (e2_fa ein_212 (e2_fa ein_216 (e2_fa ein_217 (e2_fa ein_219 e2_fz)))) (by decide) co_b600 fun M d _ hC hcall p e R s m args below meth c Q D cA A ads r0 ha hl0 => ?_
  have L_0 : e2_gdM M p l e R s m args below meth c Q D cA A ads r0 154 al_b600_0 [] E_b600_0 h_b600_0 := by
    refine e2_indL (u := 2) (j := 7) (lo := 2147483648) (hi := 2147483668) (b := 2) (dd := 0) hl0 (by decide) rfl rfl (Or.inr ⟨rfl, rfl⟩) rfl ci_b600_0 cj_b600_0 ?_
    intro r_0 k_0 hk_0 hp_0 hs_0 hn_0
    have hl_0 : r_0.length ≤ 3 := hs_0.len rfl
    have ha_0 := ha.ext hp_0
    exact e2_fromM hen ha_0 hcall (e2_cutA_ok (e2_fa (fun al st E h hc => hn_0 al st E h hc) e2_fz)) (hC []) (X := e2x_269) ex2_269 154 ck_b600_0
  have EN_0 := e2_entL (u := 2) (j := 7) (lo := 2147483648) (hi := 2147483668) hl0 rfl rfl rfl ci_b600_0 cj_b600_0 L_0
  have L_1 : e2_gdM M p l e R s m args below meth c Q D cA A ads r0 154 al_b600_1 [] E_b600_1 h_b600_1 := by
    refine e2_indL (u := 2) (j := 7) (lo := 2147483648) (hi := 2147484048) (b := 2) (dd := 0) hl0 (by decide) rfl rfl (Or.inr ⟨rfl, rfl⟩) rfl ci_b600_1 cj_b600_1 ?_
    intro r_1 k_1 hk_1 hp_1 hs_1 hn_1
    have hl_1 : r_1.length ≤ 3 := hs_1.len rfl
    have ha_1 := ha.ext hp_1
    exact e2_fromM hen ha_1 hcall (e2_cutA_ok (e2_fa (fun al st E h hc => hn_1 al st E h hc) e2_fz)) (hC []) (X := e2x_269) ex2_269 154 ck_b600_1
  have EN_1 := e2_entL (u := 2) (j := 7) (lo := 2147483648) (hi := 2147484048) hl0 rfl rfl rfl ci_b600_1 cj_b600_1 L_1
  have L_2 : e2_gdM M p l e R s m args below meth c Q D cA A ads r0 154 al_b600_2 [] E_b600_2 h_b600_2 := by
    refine e2_indL (u := 2) (j := 7) (lo := 2147483648) (hi := 2147491648) (b := 2) (dd := 0) hl0 (by decide) rfl rfl (Or.inr ⟨rfl, rfl⟩) rfl ci_b600_2 cj_b600_2 ?_
    intro r_2 k_2 hk_2 hp_2 hs_2 hn_2
    have hl_2 : r_2.length ≤ 3 := hs_2.len rfl
    have ha_2 := ha.ext hp_2
    exact e2_fromM hen ha_2 hcall (e2_cutA_ok (e2_fa (fun al st E h hc => hn_2 al st E h hc) e2_fz)) (hC []) (X := e2x_269) ex2_269 154 ck_b600_2
  have EN_2 := e2_entL (u := 2) (j := 7) (lo := 2147483648) (hi := 2147491648) hl0 rfl rfl rfl ci_b600_2 cj_b600_2 L_2
  exact e2_from hen ha hcall (e2_cutA_ok (e2_fa (fun al st E h hc => EN_0 al st E h hc) (e2_fa (fun al st E h hc => EN_1 al st E h hc) (e2_fa (fun al st E h hc => EN_2 al st E h hc) e2_fz)))) (hC []) (X := e2x_269) ex2_269 0 ck_b600_e
/-! b601 X10_watch -/
def as_b601 : List ev_V := [(2, 83, 0)]
def E_b601 : e2_E := [(2147483648, 2147583648, 0, 0), (2147483648, 2147483656, 1, 0)]
noncomputable def f_b601 : ev_H := (bn4184 : e2_Q8)
noncomputable def q_b601_0 : ev_H := (bn4184 : e2_Q8)
noncomputable def rs_b601 : e2_Rs := [((11, 0, 4294967295), q_b601_0)]
noncomputable def s_b601 : e2_Sm := (270, as_b601, E_b601, f_b601, rs_b601)
noncomputable def S_b601 : List e2_Sm := [s_b551, s_b552, s_b553, s_b565, s_b568]
noncomputable def I_b601 : List e2_In := [(215, 2, e2x_215), (216, 1, e2x_216)]
set_option maxRecDepth 1000000 in
theorem co_b601 : e2_okSB E_b601.length as_b601 f_b601 rs_b601 = true := by decide +kernel
def al_b601_0 : List ev_V := [(2, 83, 0), (11, 0, 4294967295), (1, 2, 4294967296)]
def E_b601_0 : e2_E := [(2147483648, 2147583648, 0, 0), (2147483648, 2147483656, 1, 0), (2147483648, 2147483668, 2, 0)]
noncomputable def h_b601_0 : ev_H := (bn4184 : e2_Q8)
noncomputable def cl_b601_e : List (Nat × e2_S) := [(8, e2_cutL (al_b601_0.set 2 (11, 2147483648, 2147483668)) 2 (E_b601_0.take 2) h_b601_0)]
set_option maxRecDepth 1000000 in
theorem ck_b601_e : e2_run (e2_cal S_b601 I_b601 4000 1) (e2_fin rs_b601) e2x_270 (e2_bpL cl_b601_e) (e2_cutA cl_b601_e) 4000 (e2_seek e2x_270 0) (e2_al 3 as_b601) [] E_b601 f_b601 = true := by decide +kernel
noncomputable def cl_b601_0 : List (Nat × e2_S) := [(8, e2_cutL (al_b601_0.set 2 (13, 10, 2147483668)) 2 (E_b601_0.take 2) h_b601_0)]
set_option maxRecDepth 1000000 in
theorem ck_b601_0 : e2_runM (e2_cal S_b601 I_b601 4000 1) (e2_fin rs_b601) e2x_270 (e2_bpL cl_b601_0) (e2_cutA cl_b601_0) 4000 (e2_seek e2x_270 8) al_b601_0 [] E_b601_0 h_b601_0 = true := by decide +kernel
set_option maxRecDepth 1000000 in
theorem ci_b601_0 : e2_idl 2 (al_b601_0.set 2 (9, 0, 0)) = true := by decide +kernel
set_option maxRecDepth 1000000 in
theorem cj_b601_0 : e2_idh 2 8 h_b601_0 = true := by decide +kernel
theorem cs_b601 (hen : en_ok) (l : Launch) (hh : e2_hand_b l) : e2_smOk l 64 s_b601 := by
  refine e2_conG (H := 62) (n := 1) (C := evd_270) (S := S_b601) (I := I_b601) (fuel := 4000) hen ei_270 (e2_fa ((cs_b551 hen l).mono (by decide)) (e2_fa ((cs_b552 hen l).mono (by decide)) (e2_fa (cs_b553 hen l hh) (e2_fa ((cs_b565 hen l).mono (by decide)) (e2_fa ((cs_b568 hen l).mono (by decide)) e2_fz))))) (e2_fa ein_215 (e2_fa ein_216 e2_fz)) (by decide) co_b601 fun M d _ hC hcall p e R s m args below meth c Q D cA A ads r0 ha hl0 => ?_
  have L_0 : e2_gdM M p l e R s m args below meth c Q D cA A ads r0 8 al_b601_0 [] E_b601_0 h_b601_0 := by
    refine e2_indL (u := 2) (j := 2) (lo := 2147483648) (hi := 2147483668) (b := 2) (dd := 0) hl0 (by decide) rfl rfl (Or.inr ⟨rfl, rfl⟩) rfl ci_b601_0 cj_b601_0 ?_
    intro r_0 k_0 hk_0 hp_0 hs_0 hn_0
    have hl_0 : r_0.length ≤ 3 := hs_0.len rfl
    have ha_0 := ha.ext hp_0
    exact e2_fromM hen ha_0 hcall (e2_cutA_ok (e2_fa (fun al st E h hc => hn_0 al st E h hc) e2_fz)) (hC []) (X := e2x_270) ex2_270 8 ck_b601_0
  have EN_0 := e2_entL (u := 2) (j := 2) (lo := 2147483648) (hi := 2147483668) hl0 rfl rfl rfl ci_b601_0 cj_b601_0 L_0
  exact e2_from hen ha hcall (e2_cutA_ok (e2_fa (fun al st E h hc => EN_0 al st E h hc) e2_fz)) (hC []) (X := e2x_270) ex2_270 0 ck_b601_e
