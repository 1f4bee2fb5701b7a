/-! CONTRACTS b, printed by a program -/
/-! b616 X10_year -/
def as_b616 : List ev_V := [(2, 83, 0)]
def E_b616 : e2_E := [(2147483648, 2147583648, 0, 0), (2147483648, 2147483656, 1, 0)]
def bn4234 : e2_Q4 := (bn706, bn4228)
def bn4235 : e2_Q5 := (bn4234, bn343)
def bn4236 : e2_Q6 := (bn4162, bn4235)
def bn4237 : e2_Q7 := (bn4160, bn4236)
def bn4238 : e2_Q8 := (bn4237, bn4186)
noncomputable def f_b616 : ev_H := (bn4238 : e2_Q8)
noncomputable def q_b616_0 : ev_H := (bn4238 : e2_Q8)
noncomputable def rs_b616 : e2_Rs := [((11, 2147483646, 2147483668), q_b616_0)]
noncomputable def s_b616 : e2_Sm := (246, as_b616, E_b616, f_b616, rs_b616)
noncomputable def S_b616 : List e2_Sm := [s_b611, s_b615]
noncomputable def I_b616 : List e2_In := []
set_option maxRecDepth 1000000 in
theorem ck_b616 : e2_run (e2_cal S_b616 I_b616 4000 0) (e2_fin rs_b616) e2x_246 (fun _ => false) (fun _ _ _ _ _ => false) 4000 (e2_seek e2x_246 0) (e2_al 1 as_b616) [] E_b616 f_b616 = true := by decide +kernel
set_option maxRecDepth 1000000 in
theorem co_b616 : e2_okSB E_b616.length as_b616 f_b616 rs_b616 = true := by decide +kernel
theorem cs_b616 (hen : en_ok) (l : Launch) (hh : e2_hand_b l) : e2_smOk l 66 s_b616 := e2_con0 (H := 65) (n := 0) (C := evd_246) (S := S_b616) (I := I_b616) (fuel := 4000) [] hen ei_246 (e2_fa ((cs_b611 hen l).mono (by decide)) (e2_fa (cs_b615 hen l hh) e2_fz)) e2_fz (by decide) co_b616 ex2_246 ck_b616
/-! b617 X10_undo -/
def as_b617 : List ev_V := [(2, 83, 0)]
def E_b617 : e2_E := [(2147483648, 2147583648, 0, 0), (2147483648, 2147483656, 1, 0)]
noncomputable def f_b617 : ev_H := (bn4195 : e2_Q8)
noncomputable def q_b617_0 : ev_H := (bn4227 : e2_Q8)
noncomputable def rs_b617 : e2_Rs := [((11, 2147483648, 2147483649), q_b617_0)]
noncomputable def s_b617 : e2_Sm := (247, as_b617, E_b617, f_b617, rs_b617)
noncomputable def S_b617 : List e2_Sm := [s_b612]
noncomputable def I_b617 : List e2_In := []
set_option maxRecDepth 1000000 in
theorem ck_b617 : e2_run (e2_cal S_b617 I_b617 4000 0) (e2_fin rs_b617) e2x_247 (fun _ => false) (fun _ _ _ _ _ => false) 4000 (e2_seek e2x_247 0) (e2_al 1 as_b617) [] E_b617 f_b617 = true := by decide +kernel
set_option maxRecDepth 1000000 in
theorem co_b617 : e2_okSB E_b617.length as_b617 f_b617 rs_b617 = true := by decide +kernel
theorem cs_b617 (hen : en_ok) (l : Launch) : e2_smOk l 2 s_b617 := e2_con0 (H := 1) (n := 0) (C := evd_247) (S := S_b617) (I := I_b617) (fuel := 4000) [] hen ei_247 (e2_fa (cs_b612 hen l) e2_fz) e2_fz (by decide) co_b617 ex2_247 ck_b617
/-! b618 X10_redo -/
def as_b618 : List ev_V := [(2, 83, 0)]
def E_b618 : e2_E := [(2147483648, 2147583648, 0, 0), (2147483648, 2147483656, 1, 0)]
noncomputable def f_b618 : ev_H := (bn4195 : e2_Q8)
def bc297 : ev_C := (10, [(0, 0, 0), (2, 88, 0), (2, 115, 0), (2, 114, 0), (2, 86, 0), (2, 112, 0), (11, 2147483648, 2147483689), (2, 118, 0), (2, 120, 0), (2, 131, 0), (2, 91, 0), (11, 2147483648, 2147483668), (2, 123, 0), (11, 2147483648, 2147483649), (11, 2147483648, 2147485248), (2, 87, 0), (2, 84, 0), (2, 122, 0), (2, 100, 0), (2, 132, 0), (11, 2147483648, 2147483668), (11, 2147483648, 2147485248), (1, 0, 4294967296), (11, 2147483648, 2147483653), (11, 2147483648, 2147485248), (2, 93, 0), (2, 104, 0), (11, 2147483648, 2147483678), (2, 89, 0), (2, 92, 0), (2, 119, 0), (2, 90, 0), (2, 94, 0), (2, 103, 0), (11, 2147483647, 2147483688), (11, 2147483648, 2147549184), (11, 0, 4294967295), (11, 2147483648, 2147485249), (11, 2147483648, 2147483653), (11, 2147483648, 2147483668), (2, 85, 0), (11, 0, 4294967295), (5, 0, 0), (2, 95, 0), (2, 96, 0), (2, 97, 0), (2, 98, 0), (2, 99, 0), (2, 101, 0), (2, 102, 0), (2, 105, 0), (2, 106, 0), (2, 107, 0), (2, 108, 0), (2, 109, 0), (2, 110, 0), (2, 111, 0), (11, 2147483648, 2147484768), (11, 2147482048, 2147483655), (11, 2147483648, 2147483738), (11, 2147483648, 2147483678), (11, 0, 4294967295), (11, 0, 4294967295), (11, 0, 4294967295), (11, 0, 4294967295), (11, 0, 4294967295), (2, 113, 0), (2, 116, 0), (2, 117, 0), (2, 121, 0), (11, 0, 4294967295), (11, 0, 4294967295), (2, 124, 0), (2, 125, 0), (11, 0, 4294967295), (2, 126, 0), (2, 127, 0), (2, 128, 0), (2, 129, 0), (2, 130, 0)])
def bn4239 : e2_Q1 := (bc297, bc3)
def bn4240 : e2_Q2 := (bn196, bn4239)
def bn4241 : e2_Q3 := (bn4240, bn201)
def bn4242 : e2_Q4 := (bn195, bn4241)
def bn4243 : e2_Q5 := (bn4242, bn365)
def bn4244 : e2_Q6 := (bn4243, bn250)
def bn4245 : e2_Q7 := (bn736, bn4244)
def bn4246 : e2_Q8 := (bn4194, bn4245)
noncomputable def q_b618_0 : ev_H := (bn4246 : e2_Q8)
noncomputable def rs_b618 : e2_Rs := [((11, 2147483648, 2147483649), q_b618_0)]
noncomputable def s_b618 : e2_Sm := (248, as_b618, E_b618, f_b618, rs_b618)
noncomputable def S_b618 : List e2_Sm := [s_b612]
noncomputable def I_b618 : List e2_In := []
set_option maxRecDepth 1000000 in
theorem ck_b618 : e2_run (e2_cal S_b618 I_b618 4000 0) (e2_fin rs_b618) e2x_248 (fun _ => false) (fun _ _ _ _ _ => false) 4000 (e2_seek e2x_248 0) (e2_al 1 as_b618) [] E_b618 f_b618 = true := by decide +kernel
set_option maxRecDepth 1000000 in
theorem co_b618 : e2_okSB E_b618.length as_b618 f_b618 rs_b618 = true := by decide +kernel
theorem cs_b618 (hen : en_ok) (l : Launch) : e2_smOk l 2 s_b618 := e2_con0 (H := 1) (n := 0) (C := evd_248) (S := S_b618) (I := I_b618) (fuel := 4000) [] hen ei_248 (e2_fa (cs_b612 hen l) e2_fz) e2_fz (by decide) co_b618 ex2_248 ck_b618
/-! b619 X10_readings -/
def as_b619 : List ev_V := [(2, 83, 0)]
def E_b619 : e2_E := [(2147483648, 2147583648, 0, 0), (2147483648, 2147483656, 1, 0)]
noncomputable def f_b619 : ev_H := (bn4171 : e2_Q8)
noncomputable def q_b619_0 : ev_H := (bn4171 : e2_Q8)
noncomputable def rs_b619 : e2_Rs := [((11, 0, 4294967295), q_b619_0)]
noncomputable def s_b619 : e2_Sm := (249, as_b619, E_b619, f_b619, rs_b619)
noncomputable def S_b619 : List e2_Sm := [s_b604]
noncomputable def I_b619 : List e2_In := [(227, 2, e2x_227), (232, 1, e2x_232)]
set_option maxRecDepth 1000000 in
theorem ck_b619 : e2_run (e2_cal S_b619 I_b619 4000 2) (e2_fin rs_b619) e2x_249 (fun _ => false) (fun _ _ _ _ _ => false) 4000 (e2_seek e2x_249 0) (e2_al 1 as_b619) [] E_b619 f_b619 = true := by decide +kernel
set_option maxRecDepth 1000000 in
theorem co_b619 : e2_okSB E_b619.length as_b619 f_b619 rs_b619 = true := by decide +kernel
theorem cs_b619 (hen : en_ok) (l : Launch) (hh : e2_hand_b l) : e2_smOk l 66 s_b619 := e2_con0 (H := 63) (n := 2) (C := evd_249) (S := S_b619) (I := I_b619) (fuel := 4000) [] hen ei_249 (e2_fa (cs_b604 hen l hh) e2_fz) (e2_fa ein_227 (e2_fa ein_232 e2_fz)) (by decide) co_b619 ex2_249 ck_b619
/-! b620 X10_taken -/
def as_b620 : List ev_V := [(2, 83, 0)]
def E_b620 : e2_E := [(2147483648, 2147583648, 0, 0), (2147483648, 2147483656, 1, 0)]
def bc298 : ev_C := (54, [(0, 20, 0), (11, 0, 4294967295)])
def bn4247 : e2_Q1 := (bc298, bc3)
def bn4248 : e2_Q2 := (bn230, bn4247)
def bn4249 : e2_Q3 := (bn229, bn4248)
def bn4250 : e2_Q4 := (bn226, bn4249)
def bn4251 : e2_Q5 := (bn4250, bn727)
def bn4252 : e2_Q6 := (bn4168, bn4251)
def bn4253 : e2_Q7 := (bn4167, bn4252)
def bn4254 : e2_Q8 := (bn4164, bn4253)
noncomputable def f_b620 : ev_H := (bn4254 : e2_Q8)
noncomputable def q_b620_0 : ev_H := (bn4254 : e2_Q8)
noncomputable def rs_b620 : e2_Rs := [((11, 2147483647, 2147483668), q_b620_0)]
noncomputable def s_b620 : e2_Sm := (251, as_b620, E_b620, f_b620, rs_b620)
noncomputable def S_b620 : List e2_Sm := [s_b604]
noncomputable def I_b620 : List e2_In := []
set_option maxRecDepth 1000000 in
theorem co_b620 : e2_okSB E_b620.length as_b620 f_b620 rs_b620 = true := by decide +kernel
def al_b620_0 : List ev_V := [(2, 83, 0), (11, 2147483647, 2147483668), (1, 2, 4294967296)]
def E_b620_0 : e2_E := [(2147483648, 2147583648, 0, 0), (2147483648, 2147483656, 1, 0), (2147483648, 2147483668, 2, 0)]
noncomputable def h_b620_0 : ev_H := (bn4254 : e2_Q8)
noncomputable def cl_b620_e : List (Nat × e2_S) := [(12, e2_cutL (al_b620_0.set 2 (11, 2147483648, 2147483668)) 2 (E_b620_0.take 2) h_b620_0)]
set_option maxRecDepth 1000000 in
theorem ck_b620_e : e2_run (e2_cal S_b620 I_b620 4000 0) (e2_fin rs_b620) e2x_251 (e2_bpL cl_b620_e) (e2_cutA cl_b620_e) 4000 (e2_seek e2x_251 0) (e2_al 3 as_b620) [] E_b620 f_b620 = true := by decide +kernel
noncomputable def cl_b620_0 : List (Nat × e2_S) := [(12, e2_cutL (al_b620_0.set 2 (13, 10, 2147483668)) 2 (E_b620_0.take 2) h_b620_0)]
set_option maxRecDepth 1000000 in
theorem ck_b620_0 : e2_runM (e2_cal S_b620 I_b620 4000 0) (e2_fin rs_b620) e2x_251 (e2_bpL cl_b620_0) (e2_cutA cl_b620_0) 4000 (e2_seek e2x_251 12) al_b620_0 [] E_b620_0 h_b620_0 = true := by decide +kernel
set_option maxRecDepth 1000000 in
theorem ci_b620_0 : e2_idl 2 (al_b620_0.set 2 (9, 0, 0)) = true := by decide +kernel
set_option maxRecDepth 1000000 in
theorem cj_b620_0 : e2_idh 2 8 h_b620_0 = true := by decide +kernel
theorem cs_b620 (hen : en_ok) (l : Launch) (hh : e2_hand_b l) : e2_smOk l 64 s_b620 := by
  refine e2_conG (H := 63) (n := 0) (C := evd_251) (S := S_b620) (I := I_b620) (fuel := 4000) hen ei_251 (e2_fa (cs_b604 hen l hh) e2_fz) e2_fz (by decide) co_b620 fun M d _ hC hcall p e R s m args below meth c Q D cA A ads r0 ha hl0 => ?_
  have L_0 : e2_gdM M p l e R s m args below meth c Q D cA A ads r0 12 al_b620_0 [] E_b620_0 h_b620_0 := by
    refine e2_indL (u := 2) (j := 2) (lo := 2147483648) (hi := 2147483668) (b := 2) (dd := 0) hl0 (by decide) rfl rfl (Or.inr ⟨rfl, rfl⟩) rfl ci_b620_0 cj_b620_0 ?_
    intro r_0 k_0 hk_0 hp_0 hs_0 hn_0
    have hl_0 : r_0.length ≤ 3 := hs_0.len rfl
    have ha_0 := ha.ext hp_0
    exact e2_fromM hen ha_0 hcall (e2_cutA_ok (e2_fa (fun al st E h hc => hn_0 al st E h hc) e2_fz)) (hC []) (X := e2x_251) ex2_251 12 ck_b620_0
  have EN_0 := e2_entL (u := 2) (j := 2) (lo := 2147483648) (hi := 2147483668) hl0 rfl rfl rfl ci_b620_0 cj_b620_0 L_0
  exact e2_from hen ha hcall (e2_cutA_ok (e2_fa (fun al st E h hc => EN_0 al st E h hc) e2_fz)) (hC []) (X := e2x_251) ex2_251 0 ck_b620_e
/-! b621 X10_weight -/
def as_b621 : List ev_V := [(2, 83, 0)]
def E_b621 : e2_E := [(2147483648, 2147583648, 0, 0), (2147483648, 2147483656, 1, 0)]
noncomputable def f_b621 : ev_H := (bn4171 : e2_Q8)
noncomputable def q_b621_0 : ev_H := (bn4171 : e2_Q8)
noncomputable def rs_b621 : e2_Rs := [((11, 0, 4294967295), q_b621_0)]
noncomputable def s_b621 : e2_Sm := (252, as_b621, E_b621, f_b621, rs_b621)
noncomputable def S_b621 : List e2_Sm := [s_b604]
noncomputable def I_b621 : List e2_In := [(227, 2, e2x_227)]
set_option maxRecDepth 1000000 in
theorem ck_b621 : e2_run (e2_cal S_b621 I_b621 4000 1) (e2_fin rs_b621) e2x_252 (fun _ => false) (fun _ _ _ _ _ => false) 4000 (e2_seek e2x_252 0) (e2_al 1 as_b621) [] E_b621 f_b621 = true := by decide +kernel
set_option maxRecDepth 1000000 in
theorem co_b621 : e2_okSB E_b621.length as_b621 f_b621 rs_b621 = true := by decide +kernel
theorem cs_b621 (hen : en_ok) (l : Launch) (hh : e2_hand_b l) : e2_smOk l 65 s_b621 := e2_con0 (H := 63) (n := 1) (C := evd_252) (S := S_b621) (I := I_b621) (fuel := 4000) [] hen ei_252 (e2_fa (cs_b604 hen l hh) e2_fz) (e2_fa ein_227 e2_fz) (by decide) co_b621 ex2_252 ck_b621
/-! b622 X10_does -/
def as_b622 : List ev_V := [(2, 83, 0), (11, 0, 4294967295)]
def E_b622 : e2_E := [(2147483648, 2147583648, 0, 0), (2147483648, 2147483656, 1, 0)]
def bn4255 : e2_Q5 := (bn840, bn727)
def bn4256 : e2_Q6 := (bn4184, bn4255)
def bn4257 : e2_Q7 := (bn4167, bn4256)
def bn4258 : e2_Q8 := (bn4164, bn4257)
noncomputable def f_b622 : ev_H := (bn4258 : e2_Q8)
noncomputable def q_b622_0 : ev_H := (bn4258 : e2_Q8)
noncomputable def rs_b622 : e2_Rs := [((11, 0, 4294967295), q_b622_0)]
noncomputable def s_b622 : e2_Sm := (253, as_b622, E_b622, f_b622, rs_b622)
noncomputable def S_b622 : List e2_Sm := [s_b604, s_b605]
noncomputable def I_b622 : List e2_In := [(212, 3, e2x_212), (220, 2, e2x_220)]
set_option maxRecDepth 1000000 in
theorem ck_b622 : e2_run (e2_cal S_b622 I_b622 4000 2) (e2_fin rs_b622) e2x_253 (fun _ => false) (fun _ _ _ _ _ => false) 4000 (e2_seek e2x_253 0) (e2_al 2 as_b622) [] E_b622 f_b622 = true := by decide +kernel
set_option maxRecDepth 1000000 in
theorem co_b622 : e2_okSB E_b622.length as_b622 f_b622 rs_b622 = true := by decide +kernel
theorem cs_b622 (hen : en_ok) (l : Launch) (hh : e2_hand_b l) : e2_smOk l 66 s_b622 := e2_con0 (H := 63) (n := 2) (C := evd_253) (S := S_b622) (I := I_b622) (fuel := 4000) [] hen ei_253 (e2_fa (cs_b604 hen l hh) (e2_fa ((cs_b605 hen l).mono (by decide)) e2_fz)) (e2_fa ein_212 (e2_fa ein_220 e2_fz)) (by decide) co_b622 ex2_253 ck_b622
/-! b623 X10_goYears -/
def as_b623 : List ev_V := [(2, 83, 0), (11, 2147483648, 2147483708)]
def E_b623 : e2_E := [(2147483648, 2147583648, 0, 0), (2147483648, 2147483656, 1, 0)]
def bn4259 : e2_Q2 := (bn25, bn696)
def bn4260 : e2_Q3 := (bn749, bn4259)
def bn4261 : e2_Q4 := (bn747, bn4260)
def bn4262 : e2_Q5 := (bn2694, bn4261)
def bn4263 : e2_Q6 := (bn4262, bn4159)
def bn4264 : e2_Q7 := (bn4263, bn4163)
def bn4265 : e2_Q8 := (bn4264, bn4186)
noncomputable def f_b623 : ev_H := (bn4265 : e2_Q8)
noncomputable def q_b623_0 : ev_H := (bn4265 : e2_Q8)
noncomputable def rs_b623 : e2_Rs := [((9, 0, 0), q_b623_0)]
noncomputable def s_b623 : e2_Sm := (254, as_b623, E_b623, f_b623, rs_b623)
noncomputable def S_b623 : List e2_Sm := [s_b615]
noncomputable def I_b623 : List e2_In := []
set_option maxRecDepth 1000000 in
theorem co_b623 : e2_okSB E_b623.length as_b623 f_b623 rs_b623 = true := by decide +kernel
def al_b623_0 : List ev_V := [(2, 83, 0), (11, 2147483648, 2147483708), (1, 2, 4294967296)]
def E_b623_0 : e2_E := [(2147483648, 2147583648, 0, 0), (2147483648, 2147483656, 1, 0), (2147483648, 2147483674, 2, 0)]
noncomputable def h_b623_0 : ev_H := (bn4265 : e2_Q8)
def al_b623_1 : List ev_V := [(2, 83, 0), (11, 2147483648, 2147483708), (1, 2, 4294967296)]
def E_b623_1 : e2_E := [(2147483648, 2147583648, 0, 0), (2147483648, 2147483656, 1, 0), (2147483648, 2147483708, 2, 0)]
noncomputable def h_b623_1 : ev_H := (bn4265 : e2_Q8)
noncomputable def cl_b623_e : List (Nat × e2_S) := [(2, e2_cutL (al_b623_0.set 2 (11, 2147483648, 2147483674)) 2 (E_b623_0.take 2) h_b623_0)]
set_option maxRecDepth 1000000 in
theorem ck_b623_e : e2_run (e2_cal S_b623 I_b623 4000 0) (e2_fin rs_b623) e2x_254 (e2_bpL cl_b623_e) (e2_cutA cl_b623_e) 4000 (e2_seek e2x_254 0) (e2_al 3 as_b623) [] E_b623 f_b623 = true := by decide +kernel
noncomputable def cl_b623_0 : List (Nat × e2_S) := [(2, e2_cutL (al_b623_0.set 2 (13, 10, 2147483674)) 2 (E_b623_0.take 2) h_b623_0),
  (28, e2_cutL (al_b623_1.set 2 (11, 2147483648, 2147483708)) 2 (E_b623_1.take 2) h_b623_1)]
set_option maxRecDepth 1000000 in
theorem ck_b623_0 : e2_runM (e2_cal S_b623 I_b623 4000 0) (e2_fin rs_b623) e2x_254 (e2_bpL cl_b623_0) (e2_cutA cl_b623_0) 4000 (e2_seek e2x_254 2) al_b623_0 [] E_b623_0 h_b623_0 = true := by decide +kernel
set_option maxRecDepth 1000000 in
theorem ci_b623_0 : e2_idl 2 (al_b623_0.set 2 (9, 0, 0)) = true := by decide +kernel
set_option maxRecDepth 1000000 in
theorem cj_b623_0 : e2_idh 2 8 h_b623_0 = true := by decide +kernel
noncomputable def cl_b623_1 : List (Nat × e2_S) := [(28, e2_cutL (al_b623_1.set 2 (13, 10, 2147483708)) 2 (E_b623_1.take 2) h_b623_1)]
set_option maxRecDepth 1000000 in
theorem ck_b623_1 : e2_runM (e2_cal S_b623 I_b623 4000 0) (e2_fin rs_b623) e2x_254 (e2_bpL cl_b623_1) (e2_cutA cl_b623_1) 4000 (e2_seek e2x_254 28) al_b623_1 [] E_b623_1 h_b623_1 = true := by decide +kernel
set_option maxRecDepth 1000000 in
theorem ci_b623_1 : e2_idl 2 (al_b623_1.set 2 (9, 0, 0)) = true := by decide +kernel
set_option maxRecDepth 1000000 in
theorem cj_b623_1 : e2_idh 2 8 h_b623_1 = true := by decide +kernel
theorem cs_b623 (hen : en_ok) (l : Launch) (hh : e2_hand_b l) : e2_smOk l 66 s_b623 := by
  refine e2_conG (H := 65) (n := 0) (C := evd_254) (S := S_b623) (I := I_b623) (fuel := 4000) hen ei_254 (e2_fa (cs_b615 hen l hh) e2_fz) e2_fz (by decide) co_b623 fun M d _ hC hcall p e R s m args below meth c Q D cA A ads r0 ha hl0 => ?_
  have L_1 : e2_gdM M p l e R s m args below meth c Q D cA A ads r0 28 al_b623_1 [] E_b623_1 h_b623_1 := by
    refine e2_indL (u := 2) (j := 2) (lo := 2147483648) (hi := 2147483708) (b := 2) (dd := 0) hl0 (by decide) rfl rfl (Or.inr ⟨rfl, rfl⟩) rfl ci_b623_1 cj_b623_1 ?_
    intro r_1 k_1 hk_1 hp_1 hs_1 hn_1
    have hl_1 : r_1.length ≤ 3 := hs_1.len rfl
    have ha_1 := ha.ext hp_1
    exact e2_fromM hen ha_1 hcall (e2_cutA_ok (e2_fa (fun al st E h hc => hn_1 al st E h hc) e2_fz)) (hC [12]) (X := e2x_254) ex2_254 28 ck_b623_1
  have EN_1 := e2_entL (u := 2) (j := 2) (lo := 2147483648) (hi := 2147483708) hl0 rfl rfl rfl ci_b623_1 cj_b623_1 L_1
  have L_0 : e2_gdM M p l e R s m args below meth c Q D cA A ads r0 2 al_b623_0 [] E_b623_0 h_b623_0 := by
    refine e2_indL (u := 2) (j := 2) (lo := 2147483648) (hi := 2147483674) (b := 2) (dd := 0) hl0 (by decide) rfl rfl (Or.inr ⟨rfl, rfl⟩) rfl ci_b623_0 cj_b623_0 ?_
    intro r_0 k_0 hk_0 hp_0 hs_0 hn_0
    have hl_0 : r_0.length ≤ 3 := hs_0.len rfl
    have ha_0 := ha.ext hp_0
    exact e2_fromM hen ha_0 hcall (e2_cutA_ok (e2_fa (fun al st E h hc => hn_0 al st E h hc) (e2_fa (fun al st E h hc => (EN_1 al st E h hc).ext hp_0) e2_fz))) (hC [12]) (X := e2x_254) ex2_254 2 ck_b623_0
  have EN_0 := e2_entL (u := 2) (j := 2) (lo := 2147483648) (hi := 2147483674) hl0 rfl rfl rfl ci_b623_0 cj_b623_0 L_0
  exact e2_from hen ha hcall (e2_cutA_ok (e2_fa (fun al st E h hc => EN_0 al st E h hc) e2_fz)) (hC [12]) (X := e2x_254) ex2_254 0 ck_b623_e
/-! b624 X10_bringBack -/
def as_b624 : List ev_V := [(2, 83, 0)]
def E_b624 : e2_E := [(2147483648, 2147583648, 0, 0), (2147483648, 2147483656, 1, 0)]
def bn4266 : e2_Q3 := (bn24, bn4259)
def bn4267 : e2_Q4 := (bn21, bn4266)
def bn4268 : e2_Q5 := (bn699, bn4267)
def bn4269 : e2_Q6 := (bn4268, bn338)
def bn4270 : e2_Q7 := (bn4269, bn345)
def bn4271 : e2_Q8 := (bn4270, bn3559)
noncomputable def f_b624 : ev_H := (bn4271 : e2_Q8)
noncomputable def q_b624_0 : ev_H := (bn4271 : e2_Q8)
noncomputable def rs_b624 : e2_Rs := [((9, 0, 0), q_b624_0)]
noncomputable def s_b624 : e2_Sm := (255, as_b624, E_b624, f_b624, rs_b624)
noncomputable def S_b624 : List e2_Sm := []
noncomputable def I_b624 : List e2_In := []
set_option maxRecDepth 1000000 in
theorem co_b624 : e2_okSB E_b624.length as_b624 f_b624 rs_b624 = true := by decide +kernel
def al_b624_0 : List ev_V := [(2, 83, 0), (1, 2, 4294967296)]
def E_b624_0 : e2_E := [(2147483648, 2147583648, 0, 0), (2147483648, 2147483656, 1, 0), (2147483648, 2147483674, 2, 0)]
noncomputable def h_b624_0 : ev_H := (bn4271 : e2_Q8)
noncomputable def cl_b624_e : List (Nat × e2_S) := [(2, e2_cutL (al_b624_0.set 1 (11, 2147483648, 2147483674)) 2 (E_b624_0.take 2) h_b624_0)]
set_option maxRecDepth 1000000 in
theorem ck_b624_e : e2_run (e2_cal S_b624 I_b624 4000 0) (e2_fin rs_b624) e2x_255 (e2_bpL cl_b624_e) (e2_cutA cl_b624_e) 4000 (e2_seek e2x_255 0) (e2_al 2 as_b624) [] E_b624 f_b624 = true := by decide +kernel
noncomputable def cl_b624_0 : List (Nat × e2_S) := [(2, e2_cutL (al_b624_0.set 1 (13, 10, 2147483674)) 2 (E_b624_0.take 2) h_b624_0)]
set_option maxRecDepth 1000000 in
theorem ck_b624_0 : e2_runM (e2_cal S_b624 I_b624 4000 0) (e2_fin rs_b624) e2x_255 (e2_bpL cl_b624_0) (e2_cutA cl_b624_0) 4000 (e2_seek e2x_255 2) al_b624_0 [] E_b624_0 h_b624_0 = true := by decide +kernel
set_option maxRecDepth 1000000 in
theorem ci_b624_0 : e2_idl 2 (al_b624_0.set 1 (9, 0, 0)) = true := by decide +kernel
set_option maxRecDepth 1000000 in
theorem cj_b624_0 : e2_idh 2 8 h_b624_0 = true := by decide +kernel
theorem cs_b624 (hen : en_ok) (l : Launch) : e2_smOk l 1 s_b624 := by
  refine e2_conG (H := 0) (n := 0) (C := evd_255) (S := S_b624) (I := I_b624) (fuel := 4000) hen ei_255 e2_fz e2_fz (by decide) co_b624 fun M d _ hC hcall p e R s m args below meth c Q D cA A ads r0 ha hl0 => ?_
  have L_0 : e2_gdM M p l e R s m args below meth c Q D cA A ads r0 2 al_b624_0 [] E_b624_0 h_b624_0 := by
    refine e2_indL (u := 2) (j := 1) (lo := 2147483648) (hi := 2147483674) (b := 2) (dd := 0) hl0 (by decide) rfl rfl (Or.inr ⟨rfl, rfl⟩) rfl ci_b624_0 cj_b624_0 ?_
    intro r_0 k_0 hk_0 hp_0 hs_0 hn_0
    have hl_0 : r_0.length ≤ 3 := hs_0.len rfl
    have ha_0 := ha.ext hp_0
    exact e2_fromM hen ha_0 hcall (e2_cutA_ok (e2_fa (fun al st E h hc => hn_0 al st E h hc) e2_fz)) (hC [12]) (X := e2x_255) ex2_255 2 ck_b624_0
  have EN_0 := e2_entL (u := 2) (j := 1) (lo := 2147483648) (hi := 2147483674) hl0 rfl rfl rfl ci_b624_0 cj_b624_0 L_0
  exact e2_from hen ha hcall (e2_cutA_ok (e2_fa (fun al st E h hc => EN_0 al st E h hc) e2_fz)) (hC [12]) (X := e2x_255) ex2_255 0 ck_b624_e
/-! b625 X10_will -/
def as_b625 : List ev_V := [(2, 83, 0), (11, 0, 4294967295), (11, 0, 4294967295)]
def E_b625 : e2_E := [(2147483648, 2147583648, 0, 0), (2147483648, 2147483656, 1, 0)]
def bn4272 : e2_Q8 := (bn4264, bn4257)
noncomputable def f_b625 : ev_H := (bn4272 : e2_Q8)
noncomputable def q_b625_0 : ev_H := (bn4272 : e2_Q8)
noncomputable def rs_b625 : e2_Rs := [((11, 0, 4294967295), q_b625_0)]
noncomputable def s_b625 : e2_Sm := (256, as_b625, E_b625, f_b625, rs_b625)
noncomputable def S_b625 : List e2_Sm := [s_b623, s_b624]
noncomputable def I_b625 : List e2_In := [(212, 3, e2x_212), (220, 2, e2x_220)]
set_option maxRecDepth 1000000 in
theorem ck_b625 : e2_run (e2_cal S_b625 I_b625 4000 2) (e2_fin rs_b625) e2x_256 (fun _ => false) (fun _ _ _ _ _ => false) 4000 (e2_seek e2x_256 0) (e2_al 4 as_b625) [] E_b625 f_b625 = true := by decide +kernel
set_option maxRecDepth 1000000 in
theorem co_b625 : e2_okSB E_b625.length as_b625 f_b625 rs_b625 = true := by decide +kernel
theorem cs_b625 (hen : en_ok) (l : Launch) (hh : e2_hand_b l) : e2_smOk l 69 s_b625 := e2_con0 (H := 66) (n := 2) (C := evd_256) (S := S_b625) (I := I_b625) (fuel := 4000) [] hen ei_256 (e2_fa (cs_b623 hen l hh) (e2_fa ((cs_b624 hen l).mono (by decide)) e2_fz)) (e2_fa ein_212 (e2_fa ein_220 e2_fz)) (by decide) co_b625 ex2_256 ck_b625
/-! b626 X10_field -/
def as_b626 : List ev_V := [(2, 83, 0), (11, 0, 4294967295)]
def E_b626 : e2_E := [(2147483648, 2147583648, 0, 0), (2147483648, 2147483656, 1, 0)]
noncomputable def f_b626 : ev_H := (bn4265 : e2_Q8)
noncomputable def q_b626_0 : ev_H := (bn4265 : e2_Q8)
noncomputable def rs_b626 : e2_Rs := [((11, 0, 4294967295), q_b626_0)]
noncomputable def s_b626 : e2_Sm := (257, as_b626, E_b626, f_b626, rs_b626)
noncomputable def S_b626 : List e2_Sm := [s_b550, s_b623, s_b624]
noncomputable def I_b626 : List e2_In := [(212, 3, e2x_212)]
set_option maxRecDepth 1000000 in
theorem ck_b626 : e2_run (e2_cal S_b626 I_b626 4000 1) (e2_fin rs_b626) e2x_257 (fun _ => false) (fun _ _ _ _ _ => false) 4000 (e2_seek e2x_257 0) (e2_al 3 as_b626) [] E_b626 f_b626 = true := by decide +kernel
set_option maxRecDepth 1000000 in
theorem co_b626 : e2_okSB E_b626.length as_b626 f_b626 rs_b626 = true := by decide +kernel
theorem cs_b626 (hen : en_ok) (l : Launch) (hh : e2_hand_b l) : e2_smOk l 68 s_b626 := e2_con0 (H := 66) (n := 1) (C := evd_257) (S := S_b626) (I := I_b626) (fuel := 4000) [] hen ei_257 (e2_fa ((cs_b550 hen l).mono (by decide)) (e2_fa (cs_b623 hen l hh) (e2_fa ((cs_b624 hen l).mono (by decide)) e2_fz))) (e2_fa ein_212 e2_fz) (by decide) co_b626 ex2_257 ck_b626
/-! b627 X10_harm -/
def as_b627 : List ev_V := [(2, 83, 0)]
def E_b627 : e2_E := [(2147483648, 2147583648, 0, 0), (2147483648, 2147483656, 1, 0)]
noncomputable def f_b627 : ev_H := (bn4187 : e2_Q8)
noncomputable def q_b627_0 : ev_H := (bn4187 : e2_Q8)
noncomputable def rs_b627 : e2_Rs := [((11, 2147483648, 2147483649), q_b627_0)]
noncomputable def s_b627 : e2_Sm := (258, as_b627, E_b627, f_b627, rs_b627)
noncomputable def S_b627 : List e2_Sm := [s_b604, s_b606]
noncomputable def I_b627 : List e2_In := []
set_option maxRecDepth 1000000 in
theorem ck_b627 : e2_run (e2_cal S_b627 I_b627 4000 0) (e2_fin rs_b627) e2x_258 (fun _ => false) (fun _ _ _ _ _ => false) 4000 (e2_seek e2x_258 0) (e2_al 1 as_b627) [] E_b627 f_b627 = true := by decide +kernel
set_option maxRecDepth 1000000 in
theorem co_b627 : e2_okSB E_b627.length as_b627 f_b627 rs_b627 = true := by decide +kernel
theorem cs_b627 (hen : en_ok) (l : Launch) (hh : e2_hand_b l) : e2_smOk l 64 s_b627 := e2_con0 (H := 63) (n := 0) (C := evd_258) (S := S_b627) (I := I_b627) (fuel := 4000) [] hen ei_258 (e2_fa (cs_b604 hen l hh) (e2_fa ((cs_b606 hen l).mono (by decide)) e2_fz)) e2_fz (by decide) co_b627 ex2_258 ck_b627
/-! b628 X10_isWanted -/
def as_b628 : List ev_V := [(2, 83, 0), (11, 0, 4294967295), (11, 2147483648, 2147483649)]
def E_b628 : e2_E := [(2147483648, 2147583648, 0, 0), (2147483648, 2147483656, 1, 0)]
def bn4273 : e2_Q6 := (bn4162, bn1284)
def bn4274 : e2_Q7 := (bn3613, bn4273)
def bn4275 : e2_Q2 := (bn152, bn4247)
def bn4276 : e2_Q3 := (bn151, bn4275)
def bn4277 : e2_Q4 := (bn148, bn4276)
def bn4278 : e2_Q5 := (bn3574, bn4277)
def bn4279 : e2_Q6 := (bn4278, bn3624)
def bn4280 : e2_Q5 := (bn4183, bn365)
def bn4281 : e2_Q6 := (bn4280, bn250)
def bn4282 : e2_Q7 := (bn4279, bn4281)
def bn4283 : e2_Q8 := (bn4274, bn4282)
noncomputable def f_b628 : ev_H := (bn4283 : e2_Q8)
noncomputable def q_b628_0 : ev_H := (bn4283 : e2_Q8)
noncomputable def rs_b628 : e2_Rs := [((11, 2147483648, 2147483649), q_b628_0)]
noncomputable def s_b628 : e2_Sm := (259, as_b628, E_b628, f_b628, rs_b628)
noncomputable def S_b628 : List e2_Sm := [s_b603, s_b605]
noncomputable def I_b628 : List e2_In := [(227, 2, e2x_227), (232, 1, e2x_232)]
set_option maxRecDepth 1000000 in
theorem co_b628 : e2_okSB E_b628.length as_b628 f_b628 rs_b628 = true := by decide +kernel
def al_b628_0 : List ev_V := [(2, 83, 0), (11, 0, 4294967295), (0, 1, 0), (1, 2, 4294967296)]
def E_b628_0 : e2_E := [(2147483648, 2147583648, 0, 0), (2147483648, 2147483656, 1, 0), (2147483648, 2147483668, 2, 0)]
noncomputable def h_b628_0 : ev_H := (bn4283 : e2_Q8)
noncomputable def cl_b628_e : List (Nat × e2_S) := [(58, e2_cutL (al_b628_0.set 3 (11, 2147483648, 2147483668)) 2 (E_b628_0.take 2) h_b628_0)]
set_option maxRecDepth 1000000 in
theorem ck_b628_e : e2_run (e2_cal S_b628 I_b628 4000 2) (e2_fin rs_b628) e2x_259 (e2_bpL cl_b628_e) (e2_cutA cl_b628_e) 4000 (e2_seek e2x_259 0) (e2_al 4 as_b628) [] E_b628 f_b628 = true := by decide +kernel
noncomputable def cl_b628_0 : List (Nat × e2_S) := [(58, e2_cutL (al_b628_0.set 3 (13, 10, 2147483668)) 2 (E_b628_0.take 2) h_b628_0)]
set_option maxRecDepth 1000000 in
theorem ck_b628_0 : e2_runM (e2_cal S_b628 I_b628 4000 2) (e2_fin rs_b628) e2x_259 (e2_bpL cl_b628_0) (e2_cutA cl_b628_0) 4000 (e2_seek e2x_259 58) al_b628_0 [] E_b628_0 h_b628_0 = true := by decide +kernel
set_option maxRecDepth 1000000 in
theorem ci_b628_0 : e2_idl 2 (al_b628_0.set 3 (9, 0, 0)) = true := by decide +kernel
set_option maxRecDepth 1000000 in
theorem cj_b628_0 : e2_idh 2 8 h_b628_0 = true := by decide +kernel
theorem cs_b628 (hen : en_ok) (l : Launch) : e2_smOk l 8 s_b628 := by
  refine e2_conG (H := 5) (n := 2) (C := evd_259) (S := S_b628) (I := I_b628) (fuel := 4000) hen ei_259 (e2_fa (cs_b603 hen l) (e2_fa ((cs_b605 hen l).mono (by decide)) e2_fz)) (e2_fa ein_227 (e2_fa ein_232 e2_fz)) (by decide) co_b628 fun M d _ hC hcall p e R s m args below meth c Q D cA A ads r0 ha hl0 => ?_
  have L_0 : e2_gdM M p l e R s m args below meth c Q D cA A ads r0 58 al_b628_0 [] E_b628_0 h_b628_0 := by
    refine e2_indL (u := 2) (j := 3) (lo := 2147483648) (hi := 2147483668) (b := 2) (dd := 0) hl0 (by decide) rfl rfl (Or.inr ⟨rfl, rfl⟩) rfl ci_b628_0 cj_b628_0 ?_
    intro r_0 k_0 hk_0 hp_0 hs_0 hn_0
    have hl_0 : r_0.length ≤ 3 := hs_0.len rfl
    have ha_0 := ha.ext hp_0
    exact e2_fromM hen ha_0 hcall (e2_cutA_ok (e2_fa (fun al st E h hc => hn_0 al st E h hc) e2_fz)) (hC []) (X := e2x_259) ex2_259 58 ck_b628_0
  have EN_0 := e2_entL (u := 2) (j := 3) (lo := 2147483648) (hi := 2147483668) hl0 rfl rfl rfl ci_b628_0 cj_b628_0 L_0
  exact e2_from hen ha hcall (e2_cutA_ok (e2_fa (fun al st E h hc => EN_0 al st E h hc) e2_fz)) (hC []) (X := e2x_259) ex2_259 0 ck_b628_e
/-! b629 X10_change -/
def as_b629 : List ev_V := [(2, 83, 0), (11, 2147483648, 2147483649)]
def E_b629 : e2_E := [(2147483648, 2147583648, 0, 0), (2147483648, 2147483656, 1, 0)]
def bn4284 : e2_Q5 := (bn2694, bn3579)
def bn4285 : e2_Q6 := (bn4284, bn3612)
def bn4286 : e2_Q7 := (bn4285, bn4273)
def bn4287 : e2_Q5 := (bn4183, bn790)
def bn4288 : e2_Q5 := (bn4250, bn249)
def bn4289 : e2_Q6 := (bn4287, bn4288)
def bn4290 : e2_Q7 := (bn4279, bn4289)
def bn4291 : e2_Q8 := (bn4286, bn4290)
noncomputable def f_b629 : ev_H := (bn4291 : e2_Q8)
noncomputable def q_b629_0 : ev_H := (bn4291 : e2_Q8)
noncomputable def rs_b629 : e2_Rs := [((11, 2147483647, 2147483651), q_b629_0)]
noncomputable def s_b629 : e2_Sm := (260, as_b629, E_b629, f_b629, rs_b629)
noncomputable def S_b629 : List e2_Sm := [s_b551, s_b628]
noncomputable def I_b629 : List e2_In := [(216, 1, e2x_216)]
set_option maxRecDepth 1000000 in
theorem co_b629 : e2_okSB E_b629.length as_b629 f_b629 rs_b629 = true := by decide +kernel
def al_b629_0 : List ev_V := [(2, 83, 0), (11, 2147483648, 2147483649), (11, 0, 4294967295), (11, 0, 4294967295), (1, 2, 4294967296), (1, 3, 4294967296), (1, 4, 4294967296), (1, 5, 4294967296), (9, 0, 0)]
def E_b629_0 : e2_E := [(2147483648, 2147583648, 0, 0), (2147483648, 2147483656, 1, 0), (2147483649, 2147483651, 2, 0), (2147483648, 2147483667, 3, 0), (2147483648, 2147483667, 4, 0), (2147483648, 2147483668, 5, 0)]
noncomputable def h_b629_0 : ev_H := (bn4291 : e2_Q8)
def al_b629_1 : List ev_V := [(2, 83, 0), (11, 2147483648, 2147483649), (11, 0, 4294967295), (11, 0, 4294967295), (1, 2, 4294967296), (9, 0, 0), (9, 0, 0), (9, 0, 0), (9, 0, 0)]
def E_b629_1 : e2_E := [(2147483648, 2147583648, 0, 0), (2147483648, 2147483656, 1, 0), (2147483649, 2147483652, 2, 0)]
noncomputable def h_b629_1 : ev_H := (bn4291 : e2_Q8)
def al_b629_2 : List ev_V := [(2, 83, 0), (11, 2147483648, 2147483649), (11, 0, 4294967295), (11, 0, 4294967295), (1, 2, 4294967296), (1, 3, 4294967296), (9, 0, 0), (9, 0, 0), (9, 0, 0)]
def E_b629_2 : e2_E := [(2147483648, 2147583648, 0, 0), (2147483648, 2147483656, 1, 0), (2147483649, 2147483651, 2, 0), (2147483648, 2147483668, 3, 0)]
noncomputable def h_b629_2 : ev_H := (bn4291 : e2_Q8)
def al_b629_3 : List ev_V := [(2, 83, 0), (11, 2147483648, 2147483649), (11, 0, 4294967295), (11, 0, 4294967295), (1, 2, 4294967296), (1, 3, 4294967296), (1, 4, 4294967296), (9, 0, 0), (9, 0, 0)]
def E_b629_3 : e2_E := [(2147483648, 2147583648, 0, 0), (2147483648, 2147483656, 1, 0), (2147483649, 2147483651, 2, 0), (2147483648, 2147483667, 3, 0), (2147483648, 2147483668, 4, 0)]
noncomputable def h_b629_3 : ev_H := (bn4291 : e2_Q8)
noncomputable def cl_b629_e : List (Nat × e2_S) := [(40, e2_cutL (al_b629_1.set 4 (11, 2147483649, 2147483652)) 2 (E_b629_1.take 2) h_b629_1)]
set_option maxRecDepth 1000000 in
theorem ck_b629_e : e2_run (e2_cal S_b629 I_b629 4000 1) (e2_fin rs_b629) e2x_260 (e2_bpL cl_b629_e) (e2_cutA cl_b629_e) 4000 (e2_seek e2x_260 0) (e2_al 9 as_b629) [] E_b629 f_b629 = true := by decide +kernel
noncomputable def cl_b629_0 : List (Nat × e2_S) := [(109, e2_cutL (al_b629_0.set 7 (13, 13, 2147483668)) 5 (E_b629_0.take 5) h_b629_0),
  (74, e2_cutL (al_b629_3.set 6 (13, 12, 2147483668)) 4 (E_b629_3.take 4) h_b629_3)]
set_option maxRecDepth 1000000 in
theorem ck_b629_0 : e2_runM (e2_cal S_b629 I_b629 4000 1) (e2_fin rs_b629) e2x_260 (e2_bpL cl_b629_0) (e2_cutA cl_b629_0) 4000 (e2_seek e2x_260 109) al_b629_0 [] E_b629_0 h_b629_0 = true := by decide +kernel
set_option maxRecDepth 1000000 in
theorem ci_b629_0 : e2_idl 5 (al_b629_0.set 7 (9, 0, 0)) = true := by decide +kernel
set_option maxRecDepth 1000000 in
theorem cj_b629_0 : e2_idh 5 8 h_b629_0 = true := by decide +kernel
noncomputable def cl_b629_1 : List (Nat × e2_S) := [(49, e2_cutL (al_b629_2.set 5 (11, 2147483648, 2147483668)) 3 (E_b629_2.take 3) h_b629_2)]
set_option maxRecDepth 1000000 in
theorem ck_b629_1 : e2_runM (e2_cal S_b629 I_b629 4000 1) (e2_fin rs_b629) e2x_260 (e2_bpL cl_b629_1) (e2_cutA cl_b629_1) 4000 (e2_seek e2x_260 40) al_b629_1 [] E_b629_1 h_b629_1 = true := by decide +kernel
set_option maxRecDepth 1000000 in
theorem ci_b629_1 : e2_idl 2 (al_b629_1.set 4 (9, 0, 0)) = true := by decide +kernel
set_option maxRecDepth 1000000 in
theorem cj_b629_1 : e2_idh 2 8 h_b629_1 = true := by decide +kernel
noncomputable def cl_b629_2 : List (Nat × e2_S) := [(40, e2_cutL (al_b629_1.set 4 (13, 10, 2147483652)) 2 (E_b629_1.take 2) h_b629_1),
  (74, e2_cutL (al_b629_3.set 6 (11, 2147483648, 2147483668)) 4 (E_b629_3.take 4) h_b629_3)]
set_option maxRecDepth 1000000 in
theorem ck_b629_2 : e2_runM (e2_cal S_b629 I_b629 4000 1) (e2_fin rs_b629) e2x_260 (e2_bpL cl_b629_2) (e2_cutA cl_b629_2) 4000 (e2_seek e2x_260 49) al_b629_2 [] E_b629_2 h_b629_2 = true := by decide +kernel
set_option maxRecDepth 1000000 in
theorem ci_b629_2 : e2_idl 3 (al_b629_2.set 5 (9, 0, 0)) = true := by decide +kernel
set_option maxRecDepth 1000000 in
theorem cj_b629_2 : e2_idh 3 8 h_b629_2 = true := by decide +kernel
noncomputable def cl_b629_3 : List (Nat × e2_S) := [(109, e2_cutL (al_b629_0.set 7 (11, 2147483648, 2147483668)) 5 (E_b629_0.take 5) h_b629_0),
  (49, e2_cutL (al_b629_2.set 5 (13, 11, 2147483668)) 3 (E_b629_2.take 3) h_b629_2)]
set_option maxRecDepth 1000000 in
theorem ck_b629_3 : e2_runM (e2_cal S_b629 I_b629 4000 1) (e2_fin rs_b629) e2x_260 (e2_bpL cl_b629_3) (e2_cutA cl_b629_3) 4000 (e2_seek e2x_260 74) al_b629_3 [] E_b629_3 h_b629_3 = true := by decide +kernel
set_option maxRecDepth 1000000 in
theorem ci_b629_3 : e2_idl 4 (al_b629_3.set 6 (9, 0, 0)) = true := by decide +kernel
set_option maxRecDepth 1000000 in
theorem cj_b629_3 : e2_idh 4 8 h_b629_3 = true := by decide +kernel
theorem cs_b629 (hen : en_ok) (l : Launch) : e2_smOk l 10 s_b629 := by
  refine e2_conG (H := 8) (n := 1) (C := evd_260) (S := S_b629) (I := I_b629) (fuel := 4000) hen ei_260 (e2_fa ((cs_b551 hen l).mono (by decide)) (e2_fa (cs_b628 hen l) e2_fz)) (e2_fa ein_216 e2_fz) (by decide) co_b629 fun M d _ hC hcall p e R s m args below meth c Q D cA A ads r0 ha hl0 => ?_
  have L_1 : e2_gdM M p l e R s m args below meth c Q D cA A ads r0 40 al_b629_1 [] E_b629_1 h_b629_1 := by
    refine e2_indL (u := 2) (j := 4) (lo := 2147483649) (hi := 2147483652) (b := 2) (dd := 0) hl0 (by decide) rfl rfl (Or.inr ⟨rfl, rfl⟩) rfl ci_b629_1 cj_b629_1 ?_
    intro r_1 k_1 hk_1 hp_1 hs_1 hn_1
    have hl_1 : r_1.length ≤ 3 := hs_1.len rfl
    have ha_1 := ha.ext hp_1
    have L_2 : e2_gdM M p l e R s m args below meth c Q D cA A ads r_1 49 al_b629_2 [] E_b629_2 h_b629_2 := by
      refine e2_indL (u := 3) (j := 5) (lo := 2147483648) (hi := 2147483668) (b := 3) (dd := 0) hl_1 (by decide) rfl rfl (Or.inr ⟨rfl, rfl⟩) rfl ci_b629_2 cj_b629_2 ?_
      intro r_2 k_2 hk_2 hp_2 hs_2 hn_2
      have hl_2 : r_2.length ≤ 4 := hs_2.len rfl
      have ha_2 := ha_1.ext hp_2
      have L_3 : e2_gdM M p l e R s m args below meth c Q D cA A ads r_2 74 al_b629_3 [] E_b629_3 h_b629_3 := by
        refine e2_indL (u := 4) (j := 6) (lo := 2147483648) (hi := 2147483668) (b := 4) (dd := 0) hl_2 (by decide) rfl rfl (Or.inr ⟨rfl, rfl⟩) rfl ci_b629_3 cj_b629_3 ?_
        intro r_3 k_3 hk_3 hp_3 hs_3 hn_3
        have hl_3 : r_3.length ≤ 5 := hs_3.len rfl
        have ha_3 := ha_2.ext hp_3
        have L_0 : e2_gdM M p l e R s m args below meth c Q D cA A ads r_3 109 al_b629_0 [] E_b629_0 h_b629_0 := by
          refine e2_indL (u := 5) (j := 7) (lo := 2147483648) (hi := 2147483668) (b := 5) (dd := 0) hl_3 (by decide) rfl rfl (Or.inr ⟨rfl, rfl⟩) rfl ci_b629_0 cj_b629_0 ?_
          intro r_0 k_0 hk_0 hp_0 hs_0 hn_0
          have hl_0 : r_0.length ≤ 6 := hs_0.len rfl
          have ha_0 := ha_3.ext hp_0
          exact e2_fromM hen ha_0 hcall (e2_cutA_ok (e2_fa (fun al st E h hc => hn_0 al st E h hc) (e2_fa (fun al st E h hc => (hn_3 al st E h hc).ext hp_0) e2_fz))) (hC []) (X := e2x_260) ex2_260 109 ck_b629_0
        have EN_0 := e2_entL (u := 5) (j := 7) (lo := 2147483648) (hi := 2147483668) hl_3 rfl rfl rfl ci_b629_0 cj_b629_0 L_0
        exact e2_fromM hen ha_3 hcall (e2_cutA_ok (e2_fa (fun al st E h hc => EN_0 al st E h hc) (e2_fa (fun al st E h hc => (hn_2 al st E h hc).ext hp_3) e2_fz))) (hC []) (X := e2x_260) ex2_260 74 ck_b629_3
      have EN_3 := e2_entL (u := 4) (j := 6) (lo := 2147483648) (hi := 2147483668) hl_2 rfl rfl rfl ci_b629_3 cj_b629_3 L_3
      exact e2_fromM hen ha_2 hcall (e2_cutA_ok (e2_fa (fun al st E h hc => (hn_1 al st E h hc).ext hp_2) (e2_fa (fun al st E h hc => EN_3 al st E h hc) e2_fz))) (hC []) (X := e2x_260) ex2_260 49 ck_b629_2
    have EN_2 := e2_entL (u := 3) (j := 5) (lo := 2147483648) (hi := 2147483668) hl_1 rfl rfl rfl ci_b629_2 cj_b629_2 L_2
    exact e2_fromM hen ha_1 hcall (e2_cutA_ok (e2_fa (fun al st E h hc => EN_2 al st E h hc) e2_fz)) (hC []) (X := e2x_260) ex2_260 40 ck_b629_1
  have EN_1 := e2_entL (u := 2) (j := 4) (lo := 2147483649) (hi := 2147483652) hl0 rfl rfl rfl ci_b629_1 cj_b629_1 L_1
  exact e2_from hen ha hcall (e2_cutA_ok (e2_fa (fun al st E h hc => EN_1 al st E h hc) e2_fz)) (hC []) (X := e2x_260) ex2_260 0 ck_b629_e
/-! b630 X10_turn -/
def as_b630 : List ev_V := [(2, 83, 0), (11, 0, 4294967295), (11, 0, 4294967295)]
def E_b630 : e2_E := [(2147483648, 2147583648, 0, 0), (2147483648, 2147483656, 1, 0)]
def bn4292 : e2_Q6 := (bn4278, bn4166)
def bn4293 : e2_Q3 := (bn796, bn4248)
def bn4294 : e2_Q4 := (bn226, bn4293)
def bn4295 : e2_Q5 := (bn4294, bn727)
def bn4296 : e2_Q6 := (bn4184, bn4295)
def bn4297 : e2_Q7 := (bn4292, bn4296)
def bn4298 : e2_Q8 := (bn4164, bn4297)
noncomputable def f_b630 : ev_H := (bn4298 : e2_Q8)
noncomputable def q_b630_0 : ev_H := (bn4298 : e2_Q8)
noncomputable def rs_b630 : e2_Rs := [((11, 2147483647, 2147483651), q_b630_0)]
noncomputable def s_b630 : e2_Sm := (261, as_b630, E_b630, f_b630, rs_b630)
noncomputable def S_b630 : List e2_Sm := [s_b553, s_b629]
noncomputable def I_b630 : List e2_In := [(212, 3, e2x_212), (220, 2, e2x_220)]
set_option maxRecDepth 1000000 in
theorem ck_b630 : e2_run (e2_cal S_b630 I_b630 4000 2) (e2_fin rs_b630) e2x_261 (fun _ => false) (fun _ _ _ _ _ => false) 4000 (e2_seek e2x_261 0) (e2_al 3 as_b630) [] E_b630 f_b630 = true := by decide +kernel
set_option maxRecDepth 1000000 in
theorem co_b630 : e2_okSB E_b630.length as_b630 f_b630 rs_b630 = true := by decide +kernel
theorem cs_b630 (hen : en_ok) (l : Launch) (hh : e2_hand_b l) : e2_smOk l 65 s_b630 := e2_con0 (H := 62) (n := 2) (C := evd_261) (S := S_b630) (I := I_b630) (fuel := 4000) [] hen ei_261 (e2_fa (cs_b553 hen l hh) (e2_fa ((cs_b629 hen l).mono (by decide)) e2_fz)) (e2_fa ein_212 (e2_fa ein_220 e2_fz)) (by decide) co_b630 ex2_261 ck_b630
/-! b631 X10_plain -/
def as_b631 : List ev_V := [(2, 83, 0)]
def E_b631 : e2_E := [(2147483648, 2147583648, 0, 0), (2147483648, 2147483656, 1, 0)]
def bn4299 : e2_Q6 := (bn4184, bn4251)
def bn4300 : e2_Q7 := (bn4292, bn4299)
def bn4301 : e2_Q8 := (bn4164, bn4300)
noncomputable def f_b631 : ev_H := (bn4301 : e2_Q8)
noncomputable def q_b631_0 : ev_H := (bn4301 : e2_Q8)
noncomputable def rs_b631 : e2_Rs := [((11, 2147483647, 2147483651), q_b631_0)]
noncomputable def s_b631 : e2_Sm := (262, as_b631, E_b631, f_b631, rs_b631)
noncomputable def S_b631 : List e2_Sm := [s_b604, s_b629]
noncomputable def I_b631 : List e2_In := []
set_option maxRecDepth 1000000 in
theorem co_b631 : e2_okSB E_b631.length as_b631 f_b631 rs_b631 = true := by decide +kernel
def al_b631_0 : List ev_V := [(2, 83, 0), (1, 2, 4294967296)]
def E_b631_0 : e2_E := [(2147483648, 2147583648, 0, 0), (2147483648, 2147483656, 1, 0), (2147483648, 2147483668, 2, 0)]
noncomputable def h_b631_0 : ev_H := (bn4301 : e2_Q8)
noncomputable def cl_b631_e : List (Nat × e2_S) := [(24, e2_cutL (al_b631_0.set 1 (11, 2147483648, 2147483668)) 2 (E_b631_0.take 2) h_b631_0)]
set_option maxRecDepth 1000000 in
theorem ck_b631_e : e2_run (e2_cal S_b631 I_b631 4000 0) (e2_fin rs_b631) e2x_262 (e2_bpL cl_b631_e) (e2_cutA cl_b631_e) 4000 (e2_seek e2x_262 0) (e2_al 2 as_b631) [] E_b631 f_b631 = true := by decide +kernel
noncomputable def cl_b631_0 : List (Nat × e2_S) := [(24, e2_cutL (al_b631_0.set 1 (13, 10, 2147483668)) 2 (E_b631_0.take 2) h_b631_0)]
set_option maxRecDepth 1000000 in
theorem ck_b631_0 : e2_runM (e2_cal S_b631 I_b631 4000 0) (e2_fin rs_b631) e2x_262 (e2_bpL cl_b631_0) (e2_cutA cl_b631_0) 4000 (e2_seek e2x_262 24) al_b631_0 [] E_b631_0 h_b631_0 = true := by decide +kernel
set_option maxRecDepth 1000000 in
theorem ci_b631_0 : e2_idl 2 (al_b631_0.set 1 (9, 0, 0)) = true := by decide +kernel
set_option maxRecDepth 1000000 in
theorem cj_b631_0 : e2_idh 2 8 h_b631_0 = true := by decide +kernel
theorem cs_b631 (hen : en_ok) (l : Launch) (hh : e2_hand_b l) : e2_smOk l 64 s_b631 := by
  refine e2_conG (H := 63) (n := 0) (C := evd_262) (S := S_b631) (I := I_b631) (fuel := 4000) hen ei_262 (e2_fa (cs_b604 hen l hh) (e2_fa ((cs_b629 hen l).mono (by decide)) e2_fz)) e2_fz (by decide) co_b631 fun M d _ hC hcall p e R s m args below meth c Q D cA A ads r0 ha hl0 => ?_
  have L_0 : e2_gdM M p l e R s m args below meth c Q D cA A ads r0 24 al_b631_0 [] E_b631_0 h_b631_0 := by
    refine e2_indL (u := 2) (j := 1) (lo := 2147483648) (hi := 2147483668) (b := 2) (dd := 0) hl0 (by decide) rfl rfl (Or.inr ⟨rfl, rfl⟩) rfl ci_b631_0 cj_b631_0 ?_
    intro r_0 k_0 hk_0 hp_0 hs_0 hn_0
    have hl_0 : r_0.length ≤ 3 := hs_0.len rfl
    have ha_0 := ha.ext hp_0
    exact e2_fromM hen ha_0 hcall (e2_cutA_ok (e2_fa (fun al st E h hc => hn_0 al st E h hc) e2_fz)) (hC []) (X := e2x_262) ex2_262 24 ck_b631_0
  have EN_0 := e2_entL (u := 2) (j := 1) (lo := 2147483648) (hi := 2147483668) hl0 rfl rfl rfl ci_b631_0 cj_b631_0 L_0
  exact e2_from hen ha hcall (e2_cutA_ok (e2_fa (fun al st E h hc => EN_0 al st E h hc) e2_fz)) (hC []) (X := e2x_262) ex2_262 0 ck_b631_e
/-! b632 X10_isWritten -/
def as_b632 : List ev_V := [(2, 83, 0), (0, 1, 0)]
def E_b632 : e2_E := [(2147483648, 2147583648, 0, 0), (2147483648, 2147483656, 1, 0)]
def bc299 : ev_C := (50, [(11, 2147483648, 2147483655), (0, 4294967295, 0), (0, 4294967295, 0)])
def bn4302 : e2_Q1 := (bc299, bc3)
def bn4303 : e2_Q2 := (bn56, bn4302)
def bn4304 : e2_Q3 := (bn335, bn4303)
def bn4305 : e2_Q4 := (bn333, bn4304)
def bn4306 : e2_Q5 := (bn3611, bn4305)
def bn4307 : e2_Q6 := (bn3580, bn4306)
def bn4308 : e2_Q7 := (bn4307, bn3587)
def bc300 : ev_C := (54, [(0, 3, 0), (11, 0, 4294967295)])
def bn4309 : e2_Q1 := (bc300, bc3)
def bn4310 : e2_Q2 := (bn182, bn4309)
def bn4311 : e2_Q3 := (bn181, bn4310)
def bn4312 : e2_Q4 := (bn354, bn4311)
def bn4313 : e2_Q5 := (bn3623, bn4312)
def bn4314 : e2_Q6 := (bn3575, bn4313)
def bn4315 : e2_Q5 := (bn3592, bn790)
def bn4316 : e2_Q6 := (bn4315, bn250)
def bn4317 : e2_Q7 := (bn4314, bn4316)
def bn4318 : e2_Q8 := (bn4308, bn4317)
noncomputable def f_b632 : ev_H := (bn4318 : e2_Q8)
noncomputable def q_b632_0 : ev_H := (bn4318 : e2_Q8)
noncomputable def rs_b632 : e2_Rs := [((11, 2147483648, 2147483649), q_b632_0)]
noncomputable def s_b632 : e2_Sm := (266, as_b632, E_b632, f_b632, rs_b632)
noncomputable def S_b632 : List e2_Sm := [s_b603]
noncomputable def I_b632 : List e2_In := [(227, 2, e2x_227), (232, 1, e2x_232)]
set_option maxRecDepth 1000000 in
theorem ck_b632 : e2_run (e2_cal S_b632 I_b632 4000 2) (e2_fin rs_b632) e2x_266 (fun _ => false) (fun _ _ _ _ _ => false) 4000 (e2_seek e2x_266 0) (e2_al 4 as_b632) [] E_b632 f_b632 = true := by decide +kernel
set_option maxRecDepth 1000000 in
theorem co_b632 : e2_okSB E_b632.length as_b632 f_b632 rs_b632 = true := by decide +kernel
theorem cs_b632 (hen : en_ok) (l : Launch) : e2_smOk l 8 s_b632 := e2_con0 (H := 5) (n := 2) (C := evd_266) (S := S_b632) (I := I_b632) (fuel := 4000) [] hen ei_266 (e2_fa (cs_b603 hen l) e2_fz) (e2_fa ein_227 (e2_fa ein_232 e2_fz)) (by decide) co_b632 ex2_266 ck_b632
/-! b633 X10_isWritten -/
def as_b633 : List ev_V := [(2, 83, 0), (0, 2, 0)]
def E_b633 : e2_E := [(2147483648, 2147583648, 0, 0), (2147483648, 2147483656, 1, 0)]
def bc301 : ev_C := (50, [(11, 2147483648, 2147483655), (11, 2147483648, 2147483655), (0, 4294967295, 0)])
def bn4319 : e2_Q1 := (bc301, bc3)
def bn4320 : e2_Q2 := (bn56, bn4319)
def bn4321 : e2_Q3 := (bn335, bn4320)
def bn4322 : e2_Q4 := (bn333, bn4321)
def bn4323 : e2_Q5 := (bn3611, bn4322)
def bn4324 : e2_Q6 := (bn3580, bn4323)
def bn4325 : e2_Q7 := (bn4324, bn3587)
def bn4326 : e2_Q8 := (bn4325, bn4317)
noncomputable def f_b633 : ev_H := (bn4326 : e2_Q8)
noncomputable def q_b633_0 : ev_H := (bn4326 : e2_Q8)
noncomputable def rs_b633 : e2_Rs := [((11, 2147483648, 2147483649), q_b633_0)]
noncomputable def s_b633 : e2_Sm := (266, as_b633, E_b633, f_b633, rs_b633)
noncomputable def S_b633 : List e2_Sm := [s_b603]
noncomputable def I_b633 : List e2_In := [(227, 2, e2x_227), (232, 1, e2x_232)]
set_option maxRecDepth 1000000 in
theorem ck_b633 : e2_run (e2_cal S_b633 I_b633 4000 2) (e2_fin rs_b633) e2x_266 (fun _ => false) (fun _ _ _ _ _ => false) 4000 (e2_seek e2x_266 0) (e2_al 4 as_b633) [] E_b633 f_b633 = true := by decide +kernel
set_option maxRecDepth 1000000 in
theorem co_b633 : e2_okSB E_b633.length as_b633 f_b633 rs_b633 = true := by decide +kernel
theorem cs_b633 (hen : en_ok) (l : Launch) : e2_smOk l 8 s_b633 := e2_con0 (H := 5) (n := 2) (C := evd_266) (S := S_b633) (I := I_b633) (fuel := 4000) [] hen ei_266 (e2_fa (cs_b603 hen l) e2_fz) (e2_fa ein_227 (e2_fa ein_232 e2_fz)) (by decide) co_b633 ex2_266 ck_b633
/-! b634 X10_isWritten -/
def as_b634 : List ev_V := [(2, 83, 0), (0, 3, 0)]
def E_b634 : e2_E := [(2147483648, 2147583648, 0, 0), (2147483648, 2147483656, 1, 0)]
def bc302 : ev_C := (50, [(11, 2147483648, 2147483655), (11, 2147483648, 2147483655), (11, 2147483648, 2147483655)])
def bn4327 : e2_Q1 := (bc302, bc3)
def bn4328 : e2_Q2 := (bn56, bn4327)
def bn4329 : e2_Q3 := (bn335, bn4328)
def bn4330 : e2_Q4 := (bn333, bn4329)
def bn4331 : e2_Q5 := (bn3611, bn4330)
def bn4332 : e2_Q6 := (bn3580, bn4331)
def bn4333 : e2_Q7 := (bn4332, bn3587)
def bn4334 : e2_Q8 := (bn4333, bn4317)
noncomputable def f_b634 : ev_H := (bn4334 : e2_Q8)
noncomputable def q_b634_0 : ev_H := (bn4334 : e2_Q8)
noncomputable def rs_b634 : e2_Rs := [((11, 2147483648, 2147483649), q_b634_0)]
noncomputable def s_b634 : e2_Sm := (266, as_b634, E_b634, f_b634, rs_b634)
noncomputable def S_b634 : List e2_Sm := [s_b603]
noncomputable def I_b634 : List e2_In := [(227, 2, e2x_227), (232, 1, e2x_232)]
set_option maxRecDepth 1000000 in
theorem ck_b634 : e2_run (e2_cal S_b634 I_b634 4000 2) (e2_fin rs_b634) e2x_266 (fun _ => false) (fun _ _ _ _ _ => false) 4000 (e2_seek e2x_266 0) (e2_al 4 as_b634) [] E_b634 f_b634 = true := by decide +kernel
set_option maxRecDepth 1000000 in
theorem co_b634 : e2_okSB E_b634.length as_b634 f_b634 rs_b634 = true := by decide +kernel
theorem cs_b634 (hen : en_ok) (l : Launch) : e2_smOk l 8 s_b634 := e2_con0 (H := 5) (n := 2) (C := evd_266) (S := S_b634) (I := I_b634) (fuel := 4000) [] hen ei_266 (e2_fa (cs_b603 hen l) e2_fz) (e2_fa ein_227 (e2_fa ein_232 e2_fz)) (by decide) co_b634 ex2_266 ck_b634
/-! b635 X10_isPlaced -/
def as_b635 : List ev_V := [(2, 83, 0), (11, 2147483648, 2147483667), (0, 1, 0)]
def E_b635 : e2_E := [(2147483648, 2147583648, 0, 0), (2147483648, 2147483656, 1, 0)]
def bn4335 : e2_Q5 := (bn45, bn4305)
def bn4336 : e2_Q6 := (bn30, bn4335)
def bn4337 : e2_Q7 := (bn4336, bn3555)
def bn4338 : e2_Q5 := (bn734, bn4312)
def bn4339 : e2_Q6 := (bn351, bn4338)
def bn4340 : e2_Q7 := (bn4339, bn3558)
def bn4341 : e2_Q8 := (bn4337, bn4340)
noncomputable def f_b635 : ev_H := (bn4341 : e2_Q8)
noncomputable def q_b635_0 : ev_H := (bn4341 : e2_Q8)
noncomputable def rs_b635 : e2_Rs := [((11, 2147483648, 2147483649), q_b635_0)]
noncomputable def s_b635 : e2_Sm := (268, as_b635, E_b635, f_b635, rs_b635)
noncomputable def S_b635 : List e2_Sm := []
noncomputable def I_b635 : List e2_In := [(216, 1, e2x_216), (267, 2, e2x_267)]
set_option maxRecDepth 1000000 in
theorem ck_b635 : e2_run (e2_cal S_b635 I_b635 4000 1) (e2_fin rs_b635) e2x_268 (fun _ => false) (fun _ _ _ _ _ => false) 4000 (e2_seek e2x_268 0) (e2_al 5 as_b635) [] E_b635 f_b635 = true := by decide +kernel
set_option maxRecDepth 1000000 in
theorem co_b635 : e2_okSB E_b635.length as_b635 f_b635 rs_b635 = true := by decide +kernel
theorem cs_b635 (hen : en_ok) (l : Launch) : e2_smOk l 2 s_b635 := e2_con0 (H := 0) (n := 1) (C := evd_268) (S := S_b635) (I := I_b635) (fuel := 4000) [] hen ei_268 e2_fz (e2_fa ein_216 (e2_fa ein_267 e2_fz)) (by decide) co_b635 ex2_268 ck_b635
/-! b636 X10_isPlaced -/
def as_b636 : List ev_V := [(2, 83, 0), (11, 2147483648, 2147484160), (0, 2, 0)]
def E_b636 : e2_E := [(2147483648, 2147583648, 0, 0), (2147483648, 2147483656, 1, 0)]
def bn4342 : e2_Q5 := (bn45, bn4322)
def bn4343 : e2_Q6 := (bn30, bn4342)
def bn4344 : e2_Q7 := (bn4343, bn3555)
def bn4345 : e2_Q8 := (bn4344, bn4340)
noncomputable def f_b636 : ev_H := (bn4345 : e2_Q8)
noncomputable def q_b636_0 : ev_H := (bn4345 : e2_Q8)
noncomputable def rs_b636 : e2_Rs := [((11, 2147483648, 2147483649), q_b636_0)]
noncomputable def s_b636 : e2_Sm := (268, as_b636, E_b636, f_b636, rs_b636)
noncomputable def S_b636 : List e2_Sm := []
noncomputable def I_b636 : List e2_In := [(216, 1, e2x_216), (267, 2, e2x_267)]
set_option maxRecDepth 1000000 in
theorem ck_b636 : e2_run (e2_cal S_b636 I_b636 4000 1) (e2_fin rs_b636) e2x_268 (fun _ => false) (fun _ _ _ _ _ => false) 4000 (e2_seek e2x_268 0) (e2_al 5 as_b636) [] E_b636 f_b636 = true := by decide +kernel
set_option maxRecDepth 1000000 in
theorem co_b636 : e2_okSB E_b636.length as_b636 f_b636 rs_b636 = true := by decide +kernel
theorem cs_b636 (hen : en_ok) (l : Launch) : e2_smOk l 2 s_b636 := e2_con0 (H := 0) (n := 1) (C := evd_268) (S := S_b636) (I := I_b636) (fuel := 4000) [] hen ei_268 e2_fz (e2_fa ein_216 (e2_fa ein_267 e2_fz)) (by decide) co_b636 ex2_268 ck_b636
/-! b637 X10_isPlaced -/
def as_b637 : List ev_V := [(2, 83, 0), (11, 2147483648, 2147493647), (0, 3, 0)]
def E_b637 : e2_E := [(2147483648, 2147583648, 0, 0), (2147483648, 2147483656, 1, 0)]
def bn4346 : e2_Q5 := (bn45, bn4330)
def bn4347 : e2_Q6 := (bn30, bn4346)
def bn4348 : e2_Q7 := (bn4347, bn3555)
def bn4349 : e2_Q8 := (bn4348, bn4340)
noncomputable def f_b637 : ev_H := (bn4349 : e2_Q8)
noncomputable def q_b637_0 : ev_H := (bn4349 : e2_Q8)
noncomputable def rs_b637 : e2_Rs := [((11, 2147483648, 2147483649), q_b637_0)]
noncomputable def s_b637 : e2_Sm := (268, as_b637, E_b637, f_b637, rs_b637)
noncomputable def S_b637 : List e2_Sm := []
noncomputable def I_b637 : List e2_In := [(216, 1, e2x_216), (267, 2, e2x_267)]
set_option maxRecDepth 1000000 in
theorem ck_b637 : e2_run (e2_cal S_b637 I_b637 4000 1) (e2_fin rs_b637) e2x_268 (fun _ => false) (fun _ _ _ _ _ => false) 4000 (e2_seek e2x_268 0) (e2_al 5 as_b637) [] E_b637 f_b637 = true := by decide +kernel
set_option maxRecDepth 1000000 in
theorem co_b637 : e2_okSB E_b637.length as_b637 f_b637 rs_b637 = true := by decide +kernel
theorem cs_b637 (hen : en_ok) (l : Launch) : e2_smOk l 2 s_b637 := e2_con0 (H := 0) (n := 1) (C := evd_268) (S := S_b637) (I := I_b637) (fuel := 4000) [] hen ei_268 e2_fz (e2_fa ein_216 (e2_fa ein_267 e2_fz)) (by decide) co_b637 ex2_268 ck_b637
/-! b638 X10_write -/
def as_b638 : List ev_V := [(2, 83, 0), (11, 0, 4294967295), (11, 0, 4294967295), (11, 0, 4294967295)]
def E_b638 : e2_E := [(2147483648, 2147583648, 0, 0), (2147483648, 2147483656, 1, 0)]
def bc303 : ev_C := (50, [(11, 2147483647, 2147483655), (11, 2147483647, 2147483655), (11, 2147483647, 2147483655)])
def bn4350 : e2_Q1 := (bc303, bc3)
def bn4351 : e2_Q2 := (bn56, bn4350)
def bn4352 : e2_Q3 := (bn335, bn4351)
def bn4353 : e2_Q4 := (bn52, bn4352)
def bn4354 : e2_Q5 := (bn3611, bn4353)
def bn4355 : e2_Q6 := (bn2695, bn4354)
def bn4356 : e2_Q7 := (bn4355, bn4163)
def bn4357 : e2_Q5 := (bn4165, bn4312)
def bn4358 : e2_Q6 := (bn3575, bn4357)
def bn4359 : e2_Q7 := (bn4358, bn4252)
def bn4360 : e2_Q8 := (bn4356, bn4359)
noncomputable def f_b638 : ev_H := (bn4360 : e2_Q8)
noncomputable def q_b638_0 : ev_H := (bn4360 : e2_Q8)
noncomputable def rs_b638 : e2_Rs := [((11, 2147483647, 2147483744), q_b638_0)]
noncomputable def s_b638 : e2_Sm := (269, as_b638, E_b638, f_b638, rs_b638)
noncomputable def S_b638 : List e2_Sm := [s_b167, s_b553, s_b632, s_b633, s_b634, s_b635, s_b636, s_b637]
noncomputable def I_b638 : List e2_In := [(212, 3, e2x_212), (216, 1, e2x_216), (217, 1, e2x_217), (219, 2, e2x_219)]
set_option maxRecDepth 1000000 in
theorem co_b638 : e2_okSB E_b638.length as_b638 f_b638 rs_b638 = true := by decide +kernel
def al_b638_0 : List ev_V := [(2, 83, 0), (11, 2147483648, 2147483655), (0, 4294967295, 0), (0, 4294967295, 0), (0, 1, 0), (11, 2147483652, 2147483668), (11, 2147483648, 2147483680), (1, 2, 4294967296), (9, 0, 0)]
def E_b638_0 : e2_E := [(2147483648, 2147583648, 0, 0), (2147483649, 2147483656, 1, 0), (2147483648, 2147483668, 2, 0)]
def bn4361 : e2_Q4 := (bn52, bn4304)
def bn4362 : e2_Q5 := (bn3611, bn4361)
def bn4363 : e2_Q6 := (bn2695, bn4362)
def bn4364 : e2_Q7 := (bn4363, bn4163)
def bn4365 : e2_Q8 := (bn4364, bn4359)
noncomputable def h_b638_0 : ev_H := (bn4365 : e2_Q8)
def al_b638_1 : List ev_V := [(2, 83, 0), (11, 2147483648, 2147483655), (11, 2147483648, 2147483655), (0, 4294967295, 0), (0, 2, 0), (11, 2147483664, 2147484048), (11, 2147483648, 2147483712), (1, 2, 4294967296), (9, 0, 0)]
def E_b638_1 : e2_E := [(2147483648, 2147583648, 0, 0), (2147483649, 2147483656, 1, 0), (2147483648, 2147484048, 2, 0)]
def bn4366 : e2_Q4 := (bn52, bn4321)
def bn4367 : e2_Q5 := (bn3611, bn4366)
def bn4368 : e2_Q6 := (bn2695, bn4367)
def bn4369 : e2_Q7 := (bn4368, bn4163)
def bn4370 : e2_Q8 := (bn4369, bn4359)
noncomputable def h_b638_1 : ev_H := (bn4370 : e2_Q8)
def al_b638_2 : List ev_V := [(2, 83, 0), (11, 2147483648, 2147483655), (11, 2147483648, 2147483655), (11, 2147483648, 2147483655), (0, 3, 0), (11, 2147483712, 2147491648), (11, 2147483648, 2147483744), (1, 2, 4294967296), (9, 0, 0)]
def E_b638_2 : e2_E := [(2147483648, 2147583648, 0, 0), (2147483649, 2147483656, 1, 0), (2147483648, 2147491648, 2, 0)]
def bn4371 : e2_Q4 := (bn52, bn4329)
def bn4372 : e2_Q5 := (bn3611, bn4371)
def bn4373 : e2_Q6 := (bn2695, bn4372)
def bn4374 : e2_Q7 := (bn4373, bn4163)
def bn4375 : e2_Q8 := (bn4374, bn4359)
noncomputable def h_b638_2 : ev_H := (bn4375 : e2_Q8)
noncomputable def cl_b638_e : List (Nat × e2_S) := [(154, e2_cutL (al_b638_0.set 7 (11, 2147483648, 2147483668)) 2 (E_b638_0.take 2) h_b638_0),
  (154, e2_cutL (al_b638_1.set 7 (11, 2147483648, 2147484048)) 2 (E_b638_1.take 2) h_b638_1),
  (154, e2_cutL (al_b638_2.set 7 (11, 2147483648, 2147491648)) 2 (E_b638_2.take 2) h_b638_2)]
set_option maxRecDepth 1000000 in
theorem ck_b638_e : e2_run (e2_cal S_b638 I_b638 4000 2) (e2_fin rs_b638) e2x_269 (e2_bpL cl_b638_e) (e2_cutA cl_b638_e) 4000 (e2_seek e2x_269 0) (e2_al 9 as_b638) [] E_b638 f_b638 = true := by decide +kernel
noncomputable def cl_b638_0 : List (Nat × e2_S) := [(154, e2_cutL (al_b638_0.set 7 (13, 10, 2147483668)) 2 (E_b638_0.take 2) h_b638_0)]
set_option maxRecDepth 1000000 in
theorem ck_b638_0 : e2_runM (e2_cal S_b638 I_b638 4000 2) (e2_fin rs_b638) e2x_269 (e2_bpL cl_b638_0) (e2_cutA cl_b638_0) 4000 (e2_seek e2x_269 154) al_b638_0 [] E_b638_0 h_b638_0 = true := by decide +kernel
set_option maxRecDepth 1000000 in
theorem ci_b638_0 : e2_idl 2 (al_b638_0.set 7 (9, 0, 0)) = true := by decide +kernel
set_option maxRecDepth 1000000 in
theorem cj_b638_0 : e2_idh 2 8 h_b638_0 = true := by decide +kernel
noncomputable def cl_b638_1 : List (Nat × e2_S) := [(154, e2_cutL (al_b638_1.set 7 (13, 10, 2147484048)) 2 (E_b638_1.take 2) h_b638_1)]
set_option maxRecDepth 1000000 in
theorem ck_b638_1 : e2_runM (e2_cal S_b638 I_b638 4000 2) (e2_fin rs_b638) e2x_269 (e2_bpL cl_b638_1) (e2_cutA cl_b638_1) 4000 (e2_seek e2x_269 154) al_b638_1 [] E_b638_1 h_b638_1 = true := by decide +kernel
set_option maxRecDepth 1000000 in
theorem ci_b638_1 : e2_idl 2 (al_b638_1.set 7 (9, 0, 0)) = true := by decide +kernel
set_option maxRecDepth 1000000 in
theorem cj_b638_1 : e2_idh 2 8 h_b638_1 = true := by decide +kernel
noncomputable def cl_b638_2 : List (Nat × e2_S) := [(154, e2_cutL (al_b638_2.set 7 (13, 10, 2147491648)) 2 (E_b638_2.take 2) h_b638_2)]
set_option maxRecDepth 1000000 in
theorem ck_b638_2 : e2_runM (e2_cal S_b638 I_b638 4000 2) (e2_fin rs_b638) e2x_269 (e2_bpL cl_b638_2) (e2_cutA cl_b638_2) 4000 (e2_seek e2x_269 154) al_b638_2 [] E_b638_2 h_b638_2 = true := by decide +kernel
set_option maxRecDepth 1000000 in
theorem ci_b638_2 : e2_idl 2 (al_b638_2.set 7 (9, 0, 0)) = true := by decide +kernel
set_option maxRecDepth 1000000 in
theorem cj_b638_2 : e2_idh 2 8 h_b638_2 = true := by decide +kernel
theorem cs_b638 (hen : en_ok) (l : Launch) (hh : e2_hand_b l) : e2_smOk l 65 s_b638 := by
  refine e2_conG (H := 62) (n := 2) (C := evd_269) (S := S_b638) (I := I_b638) (fuel := 4000) hen ei_269 (e2_fa ((hh _ hm_b167).mono (by decide)) (e2_fa (cs_b553 hen l hh) (e2_fa ((cs_b632 hen l).mono (by decide)) (e2_fa ((cs_b633 hen l).mono (by decide)) (e2_fa ((cs_b634 hen l).mono (by decide)) (e2_fa ((cs_b635 hen l).mono (by decide)) (e2_fa ((cs_b636 hen l).mono (by decide)) (e2_fa ((cs_b637 hen l).mono (by decide)) e2_fz)))))))) (e2_fa ein_212 (e2_fa ein_216 (e2_fa ein_217 (e2_fa ein_219 e2_fz)))) (by decide) co_b638 fun M d _ hC hcall p e R s m args below meth c Q D cA A ads r0 ha hl0 => ?_
  have L_0 : e2_gdM M p l e R s m args below meth c Q D cA A ads r0 154 al_b638_0 [] E_b638_0 h_b638_0 := by
    refine e2_indL (u := 2) (j := 7) (lo := 2147483648) (hi := 2147483668) (b := 2) (dd := 0) hl0 (by decide) rfl rfl (Or.inr ⟨rfl, rfl⟩) rfl ci_b638_0 cj_b638_0 ?_
    intro r_0 k_0 hk_0 hp_0 hs_0 hn_0
    have hl_0 : r_0.length ≤ 3 := hs_0.len rfl
    have ha_0 := ha.ext hp_0
    exact e2_fromM hen ha_0 hcall (e2_cutA_ok (e2_fa (fun al st E h hc => hn_0 al st E h hc) e2_fz)) (hC []) (X := e2x_269) ex2_269 154 ck_b638_0
  have EN_0 := e2_entL (u := 2) (j := 7) (lo := 2147483648) (hi := 2147483668) hl0 rfl rfl rfl ci_b638_0 cj_b638_0 L_0
  have L_1 : e2_gdM M p l e R s m args below meth c Q D cA A ads r0 154 al_b638_1 [] E_b638_1 h_b638_1 := by
    refine e2_indL (u := 2) (j := 7) (lo := 2147483648) (hi := 2147484048) (b := 2) (dd := 0) hl0 (by decide) rfl rfl (Or.inr ⟨rfl, rfl⟩) rfl ci_b638_1 cj_b638_1 ?_
    intro r_1 k_1 hk_1 hp_1 hs_1 hn_1
    have hl_1 : r_1.length ≤ 3 := hs_1.len rfl
    have ha_1 := ha.ext hp_1
    exact e2_fromM hen ha_1 hcall (e2_cutA_ok (e2_fa (fun al st E h hc => hn_1 al st E h hc) e2_fz)) (hC []) (X := e2x_269) ex2_269 154 ck_b638_1
  have EN_1 := e2_entL (u := 2) (j := 7) (lo := 2147483648) (hi := 2147484048) hl0 rfl rfl rfl ci_b638_1 cj_b638_1 L_1
  have L_2 : e2_gdM M p l e R s m args below meth c Q D cA A ads r0 154 al_b638_2 [] E_b638_2 h_b638_2 := by
    refine e2_indL (u := 2) (j := 7) (lo := 2147483648) (hi := 2147491648) (b := 2) (dd := 0) hl0 (by decide) rfl rfl (Or.inr ⟨rfl, rfl⟩) rfl ci_b638_2 cj_b638_2 ?_
    intro r_2 k_2 hk_2 hp_2 hs_2 hn_2
    have hl_2 : r_2.length ≤ 3 := hs_2.len rfl
    have ha_2 := ha.ext hp_2
    exact e2_fromM hen ha_2 hcall (e2_cutA_ok (e2_fa (fun al st E h hc => hn_2 al st E h hc) e2_fz)) (hC []) (X := e2x_269) ex2_269 154 ck_b638_2
  have EN_2 := e2_entL (u := 2) (j := 7) (lo := 2147483648) (hi := 2147491648) hl0 rfl rfl rfl ci_b638_2 cj_b638_2 L_2
  exact e2_from hen ha hcall (e2_cutA_ok (e2_fa (fun al st E h hc => EN_0 al st E h hc) (e2_fa (fun al st E h hc => EN_1 al st E h hc) (e2_fa (fun al st E h hc => EN_2 al st E h hc) e2_fz)))) (hC []) (X := e2x_269) ex2_269 0 ck_b638_e
/-! b639 X10_watch -/
def as_b639 : List ev_V := [(2, 83, 0)]
def E_b639 : e2_E := [(2147483648, 2147583648, 0, 0), (2147483648, 2147483656, 1, 0)]
noncomputable def f_b639 : ev_H := (bn4187 : e2_Q8)
noncomputable def q_b639_0 : ev_H := (bn4187 : e2_Q8)
noncomputable def rs_b639 : e2_Rs := [((11, 0, 4294967295), q_b639_0)]
noncomputable def s_b639 : e2_Sm := (270, as_b639, E_b639, f_b639, rs_b639)
noncomputable def S_b639 : List e2_Sm := [s_b551, s_b552, s_b553, s_b603, s_b606]
noncomputable def I_b639 : List e2_In := [(215, 2, e2x_215), (216, 1, e2x_216)]
set_option maxRecDepth 1000000 in
theorem co_b639 : e2_okSB E_b639.length as_b639 f_b639 rs_b639 = true := by decide +kernel
def al_b639_0 : List ev_V := [(2, 83, 0), (11, 0, 4294967295), (1, 2, 4294967296)]
def E_b639_0 : e2_E := [(2147483648, 2147583648, 0, 0), (2147483648, 2147483656, 1, 0), (2147483648, 2147483668, 2, 0)]
noncomputable def h_b639_0 : ev_H := (bn4187 : e2_Q8)
noncomputable def cl_b639_e : List (Nat × e2_S) := [(8, e2_cutL (al_b639_0.set 2 (11, 2147483648, 2147483668)) 2 (E_b639_0.take 2) h_b639_0)]
set_option maxRecDepth 1000000 in
theorem ck_b639_e : e2_run (e2_cal S_b639 I_b639 4000 1) (e2_fin rs_b639) e2x_270 (e2_bpL cl_b639_e) (e2_cutA cl_b639_e) 4000 (e2_seek e2x_270 0) (e2_al 3 as_b639) [] E_b639 f_b639 = true := by decide +kernel
noncomputable def cl_b639_0 : List (Nat × e2_S) := [(8, e2_cutL (al_b639_0.set 2 (13, 10, 2147483668)) 2 (E_b639_0.take 2) h_b639_0)]
set_option maxRecDepth 1000000 in
theorem ck_b639_0 : e2_runM (e2_cal S_b639 I_b639 4000 1) (e2_fin rs_b639) e2x_270 (e2_bpL cl_b639_0) (e2_cutA cl_b639_0) 4000 (e2_seek e2x_270 8) al_b639_0 [] E_b639_0 h_b639_0 = true := by decide +kernel
set_option maxRecDepth 1000000 in
theorem ci_b639_0 : e2_idl 2 (al_b639_0.set 2 (9, 0, 0)) = true := by decide +kernel
set_option maxRecDepth 1000000 in
theorem cj_b639_0 : e2_idh 2 8 h_b639_0 = true := by decide +kernel
theorem cs_b639 (hen : en_ok) (l : Launch) (hh : e2_hand_b l) : e2_smOk l 64 s_b639 := by
  refine e2_conG (H := 62) (n := 1) (C := evd_270) (S := S_b639) (I := I_b639) (fuel := 4000) hen ei_270 (e2_fa ((cs_b551 hen l).mono (by decide)) (e2_fa ((cs_b552 hen l).mono (by decide)) (e2_fa (cs_b553 hen l hh) (e2_fa ((cs_b603 hen l).mono (by decide)) (e2_fa ((cs_b606 hen l).mono (by decide)) e2_fz))))) (e2_fa ein_215 (e2_fa ein_216 e2_fz)) (by decide) co_b639 fun M d _ hC hcall p e R s m args below meth c Q D cA A ads r0 ha hl0 => ?_
  have L_0 : e2_gdM M p l e R s m args below meth c Q D cA A ads r0 8 al_b639_0 [] E_b639_0 h_b639_0 := by
    refine e2_indL (u := 2) (j := 2) (lo := 2147483648) (hi := 2147483668) (b := 2) (dd := 0) hl0 (by decide) rfl rfl (Or.inr ⟨rfl, rfl⟩) rfl ci_b639_0 cj_b639_0 ?_
    intro r_0 k_0 hk_0 hp_0 hs_0 hn_0
    have hl_0 : r_0.length ≤ 3 := hs_0.len rfl
    have ha_0 := ha.ext hp_0
    exact e2_fromM hen ha_0 hcall (e2_cutA_ok (e2_fa (fun al st E h hc => hn_0 al st E h hc) e2_fz)) (hC []) (X := e2x_270) ex2_270 8 ck_b639_0
  have EN_0 := e2_entL (u := 2) (j := 2) (lo := 2147483648) (hi := 2147483668) hl0 rfl rfl rfl ci_b639_0 cj_b639_0 L_0
  exact e2_from hen ha hcall (e2_cutA_ok (e2_fa (fun al st E h hc => EN_0 al st E h hc) e2_fz)) (hC []) (X := e2x_270) ex2_270 0 ck_b639_e
