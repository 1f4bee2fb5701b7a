/-! CONTRACTS b, printed by a program -/
/-! b602 X10_cows -/
def as_b602 : List ev_V := [(2, 83, 0), (11, 0, 4294967295), (11, 0, 4294967295)]
def E_b602 : e2_E := [(2147483648, 2147583648, 0, 0), (2147483648, 2147483656, 1, 0)]
noncomputable def f_b602 : ev_H := (bn4255 : e2_Q8)
noncomputable def q_b602_0 : ev_H := (bn4255 : e2_Q8)
noncomputable def rs_b602 : e2_Rs := [((11, 0, 4294967295), q_b602_0)]
noncomputable def s_b602 : e2_Sm := (271, as_b602, E_b602, f_b602, rs_b602)
noncomputable def S_b602 : List e2_Sm := [s_b167, s_b551, s_b552, s_b565, s_b566, s_b567]
noncomputable def I_b602 : List e2_In := [(212, 3, e2x_212), (215, 2, e2x_215), (216, 1, e2x_216), (220, 2, e2x_220)]
set_option maxRecDepth 1000000 in
theorem co_b602 : e2_okSB E_b602.length as_b602 f_b602 rs_b602 = true := by decide +kernel
def al_b602_0 : List ev_V := [(2, 83, 0), (11, 2147483648, 2147483651), (11, 2147483648, 2147483649), (11, 0, 4294967295), (11, 0, 4294967295), (1, 2, 4294967296)]
def E_b602_0 : e2_E := [(2147483648, 2147583648, 0, 0), (2147483648, 2147483656, 1, 0), (2147483648, 2147483668, 2, 0)]
noncomputable def h_b602_0 : ev_H := (bn4255 : e2_Q8)
noncomputable def cl_b602_e : List (Nat × e2_S) := [(36, e2_cutL (al_b602_0.set 5 (11, 2147483648, 2147483668)) 2 (E_b602_0.take 2) h_b602_0)]
set_option maxRecDepth 1000000 in
theorem ck_b602_e : e2_run (e2_cal S_b602 I_b602 4000 2) (e2_fin rs_b602) e2x_271 (e2_bpL cl_b602_e) (e2_cutA cl_b602_e) 4000 (e2_seek e2x_271 0) (e2_al 6 as_b602) [] E_b602 f_b602 = true := by decide +kernel
noncomputable def cl_b602_0 : List (Nat × e2_S) := [(36, e2_cutL (al_b602_0.set 5 (13, 10, 2147483668)) 2 (E_b602_0.take 2) h_b602_0)]
set_option maxRecDepth 1000000 in
theorem ck_b602_0 : e2_runM (e2_cal S_b602 I_b602 4000 2) (e2_fin rs_b602) e2x_271 (e2_bpL cl_b602_0) (e2_cutA cl_b602_0) 4000 (e2_seek e2x_271 36) al_b602_0 [] E_b602_0 h_b602_0 = true := by decide +kernel
set_option maxRecDepth 1000000 in
theorem ci_b602_0 : e2_idl 2 (al_b602_0.set 5 (9, 0, 0)) = true := by decide +kernel
set_option maxRecDepth 1000000 in
theorem cj_b602_0 : e2_idh 2 8 h_b602_0 = true := by decide +kernel
theorem cs_b602 (hen : en_ok) (l : Launch) (hh : e2_hand_b l) : e2_smOk l 66 s_b602 := by
  refine e2_conG (H := 63) (n := 2) (C := evd_271) (S := S_b602) (I := I_b602) (fuel := 4000) hen ei_271 (e2_fa (hh _ hm_b167) (e2_fa ((cs_b551 hen l).mono (by decide)) (e2_fa ((cs_b552 hen l).mono (by decide)) (e2_fa ((cs_b565 hen l).mono (by decide)) (e2_fa (cs_b566 hen l hh) (e2_fa ((cs_b567 hen l).mono (by decide)) e2_fz)))))) (e2_fa ein_212 (e2_fa ein_215 (e2_fa ein_216 (e2_fa ein_220 e2_fz)))) (by decide) co_b602 fun M d _ hC hcall p e R s m args below meth c Q D cA A ads r0 ha hl0 => ?_
  have L_0 : e2_gdM M p l e R s m args below meth c Q D cA A ads r0 36 al_b602_0 [] E_b602_0 h_b602_0 := by
    refine e2_indL (u := 2) (j := 5) (lo := 2147483648) (hi := 2147483668) (b := 2) (dd := 0) hl0 (by decide) rfl rfl (Or.inr ⟨rfl, rfl⟩) rfl ci_b602_0 cj_b602_0 ?_
    intro r_0 k_0 hk_0 hp_0 hs_0 hn_0
    have hl_0 : r_0.length ≤ 3 := hs_0.len rfl
    have ha_0 := ha.ext hp_0
    exact e2_fromM hen ha_0 hcall (e2_cutA_ok (e2_fa (fun al st E h hc => hn_0 al st E h hc) e2_fz)) (hC []) (X := e2x_271) ex2_271 36 ck_b602_0
  have EN_0 := e2_entL (u := 2) (j := 5) (lo := 2147483648) (hi := 2147483668) hl0 rfl rfl rfl ci_b602_0 cj_b602_0 L_0
  exact e2_from hen ha hcall (e2_cutA_ok (e2_fa (fun al st E h hc => EN_0 al st E h hc) e2_fz)) (hC []) (X := e2x_271) ex2_271 0 ck_b602_e
/-! b603 X10_answered -/
def as_b603 : List ev_V := [(2, 83, 0), (11, 2147483648, 2147483651), (11, 0, 4294967295), (11, 0, 4294967295)]
def E_b603 : e2_E := [(2147483648, 2147583648, 0, 0), (2147483648, 2147483656, 1, 0)]
def bn4373 : e2_Q7 := (bn4153, bn4278)
def bn4374 : e2_Q8 := (bn4271, bn4373)
noncomputable def f_b603 : ev_H := (bn4374 : e2_Q8)
noncomputable def q_b603_0 : ev_H := (bn4374 : e2_Q8)
noncomputable def rs_b603 : e2_Rs := [((11, 0, 4294967295), q_b603_0)]
noncomputable def s_b603 : e2_Sm := (272, as_b603, E_b603, f_b603, rs_b603)
noncomputable def S_b603 : List e2_Sm := [s_b565, s_b567]
noncomputable def I_b603 : List e2_In := [(215, 2, e2x_215), (216, 1, e2x_216)]
set_option maxRecDepth 1000000 in
theorem co_b603 : e2_okSB E_b603.length as_b603 f_b603 rs_b603 = true := by decide +kernel
def al_b603_0 : List ev_V := [(2, 83, 0), (11, 2147483648, 2147483651), (11, 0, 4294967295), (11, 0, 4294967295), (11, 0, 4294967295), (1, 2, 4294967296), (9, 0, 0)]
def E_b603_0 : e2_E := [(2147483648, 2147583648, 0, 0), (2147483648, 2147483656, 1, 0), (2147483648, 2147483668, 2, 0)]
noncomputable def h_b603_0 : ev_H := (bn4374 : e2_Q8)
noncomputable def cl_b603_e : List (Nat × e2_S) := [(11, e2_cutL (al_b603_0.set 5 (11, 2147483648, 2147483668)) 2 (E_b603_0.take 2) h_b603_0)]
set_option maxRecDepth 1000000 in
theorem ck_b603_e : e2_run (e2_cal S_b603 I_b603 4000 1) (e2_fin rs_b603) e2x_272 (e2_bpL cl_b603_e) (e2_cutA cl_b603_e) 4000 (e2_seek e2x_272 0) (e2_al 7 as_b603) [] E_b603 f_b603 = true := by decide +kernel
noncomputable def cl_b603_0 : List (Nat × e2_S) := [(11, e2_cutL (al_b603_0.set 5 (13, 10, 2147483668)) 2 (E_b603_0.take 2) h_b603_0)]
set_option maxRecDepth 1000000 in
theorem ck_b603_0 : e2_runM (e2_cal S_b603 I_b603 4000 1) (e2_fin rs_b603) e2x_272 (e2_bpL cl_b603_0) (e2_cutA cl_b603_0) 4000 (e2_seek e2x_272 11) al_b603_0 [] E_b603_0 h_b603_0 = true := by decide +kernel
set_option maxRecDepth 1000000 in
theorem ci_b603_0 : e2_idl 2 (al_b603_0.set 5 (9, 0, 0)) = true := by decide +kernel
set_option maxRecDepth 1000000 in
theorem cj_b603_0 : e2_idh 2 8 h_b603_0 = true := by decide +kernel
theorem cs_b603 (hen : en_ok) (l : Launch) : e2_smOk l 7 s_b603 := by
  refine e2_conG (H := 5) (n := 1) (C := evd_272) (S := S_b603) (I := I_b603) (fuel := 4000) hen ei_272 (e2_fa (cs_b565 hen l) (e2_fa ((cs_b567 hen l).mono (by decide)) e2_fz)) (e2_fa ein_215 (e2_fa ein_216 e2_fz)) (by decide) co_b603 fun M d _ hC hcall p e R s m args below meth c Q D cA A ads r0 ha hl0 => ?_
  have L_0 : e2_gdM M p l e R s m args below meth c Q D cA A ads r0 11 al_b603_0 [] E_b603_0 h_b603_0 := by
    refine e2_indL (u := 2) (j := 5) (lo := 2147483648) (hi := 2147483668) (b := 2) (dd := 0) hl0 (by decide) rfl rfl (Or.inr ⟨rfl, rfl⟩) rfl ci_b603_0 cj_b603_0 ?_
    intro r_0 k_0 hk_0 hp_0 hs_0 hn_0
    have hl_0 : r_0.length ≤ 3 := hs_0.len rfl
    have ha_0 := ha.ext hp_0
    exact e2_fromM hen ha_0 hcall (e2_cutA_ok (e2_fa (fun al st E h hc => hn_0 al st E h hc) e2_fz)) (hC []) (X := e2x_272) ex2_272 11 ck_b603_0
  have EN_0 := e2_entL (u := 2) (j := 5) (lo := 2147483648) (hi := 2147483668) hl0 rfl rfl rfl ci_b603_0 cj_b603_0 L_0
  exact e2_from hen ha hcall (e2_cutA_ok (e2_fa (fun al st E h hc => EN_0 al st E h hc) e2_fz)) (hC []) (X := e2x_272) ex2_272 0 ck_b603_e
/-! b604 X10_isOpenSet -/
def as_b604 : List ev_V := [(2, 83, 0), (11, 0, 4294967295)]
def E_b604 : e2_E := [(2147483648, 2147583648, 0, 0), (2147483648, 2147483656, 1, 0)]
noncomputable def f_b604 : ev_H := (bn3564 : e2_Q8)
noncomputable def q_b604_0 : ev_H := (bn3564 : e2_Q8)
noncomputable def rs_b604 : e2_Rs := [((11, 2147483648, 2147483649), q_b604_0)]
noncomputable def s_b604 : e2_Sm := (273, as_b604, E_b604, f_b604, rs_b604)
noncomputable def S_b604 : List e2_Sm := [s_b552]
noncomputable def I_b604 : List e2_In := []
set_option maxRecDepth 1000000 in
theorem ck_b604 : e2_run (e2_cal S_b604 I_b604 4000 0) (e2_fin rs_b604) e2x_273 (fun _ => false) (fun _ _ _ _ _ => false) 4000 (e2_seek e2x_273 0) (e2_al 2 as_b604) [] E_b604 f_b604 = true := by decide +kernel
set_option maxRecDepth 1000000 in
theorem co_b604 : e2_okSB E_b604.length as_b604 f_b604 rs_b604 = true := by decide +kernel
theorem cs_b604 (hen : en_ok) (l : Launch) : e2_smOk l 6 s_b604 := e2_con0 (H := 5) (n := 0) (C := evd_273) (S := S_b604) (I := I_b604) (fuel := 4000) [] hen ei_273 (e2_fa (cs_b552 hen l) e2_fz) e2_fz (by decide) co_b604 ex2_273 ck_b604
/-! b605 X10_duel -/
def as_b605 : List ev_V := [(2, 83, 0), (11, 0, 4294967295), (11, 0, 4294967295), (11, 0, 4294967295), (11, 0, 4294967295)]
def E_b605 : e2_E := [(2147483648, 2147583648, 0, 0), (2147483648, 2147483656, 1, 0)]
noncomputable def f_b605 : ev_H := (bn4255 : e2_Q8)
noncomputable def q_b605_0 : ev_H := (bn4255 : e2_Q8)
noncomputable def rs_b605 : e2_Rs := [((11, 0, 4294967295), q_b605_0)]
noncomputable def s_b605 : e2_Sm := (274, as_b605, E_b605, f_b605, rs_b605)
noncomputable def S_b605 : List e2_Sm := [s_b551, s_b553, s_b603, s_b604]
noncomputable def I_b605 : List e2_In := [(212, 3, e2x_212), (215, 2, e2x_215), (216, 1, e2x_216), (220, 2, e2x_220)]
set_option maxRecDepth 1000000 in
theorem co_b605 : e2_okSB E_b605.length as_b605 f_b605 rs_b605 = true := by decide +kernel
def al_b605_0 : List ev_V := [(2, 83, 0), (11, 2147483648, 2147483651), (11, 0, 4294967295), (11, 0, 4294967295), (11, 2147483648, 2147483650), (11, 2147483647, 2147483667), (11, 0, 4294967295), (11, 0, 4294967295), (1, 2, 4294967296), (9, 0, 0)]
def E_b605_0 : e2_E := [(2147483648, 2147583648, 0, 0), (2147483648, 2147483656, 1, 0), (2147483648, 2147483668, 2, 0)]
noncomputable def h_b605_0 : ev_H := (bn4255 : e2_Q8)
noncomputable def cl_b605_e : List (Nat × e2_S) := [(60, e2_cutL (al_b605_0.set 8 (11, 2147483648, 2147483668)) 2 (E_b605_0.take 2) h_b605_0)]
set_option maxRecDepth 1000000 in
theorem ck_b605_e : e2_run (e2_cal S_b605 I_b605 4000 2) (e2_fin rs_b605) e2x_274 (e2_bpL cl_b605_e) (e2_cutA cl_b605_e) 4000 (e2_seek e2x_274 0) (e2_al 10 as_b605) [] E_b605 f_b605 = true := by decide +kernel
noncomputable def cl_b605_0 : List (Nat × e2_S) := [(60, e2_cutL (al_b605_0.set 8 (13, 10, 2147483668)) 2 (E_b605_0.take 2) h_b605_0)]
set_option maxRecDepth 1000000 in
theorem ck_b605_0 : e2_runM (e2_cal S_b605 I_b605 4000 2) (e2_fin rs_b605) e2x_274 (e2_bpL cl_b605_0) (e2_cutA cl_b605_0) 4000 (e2_seek e2x_274 60) al_b605_0 [] E_b605_0 h_b605_0 = true := by decide +kernel
set_option maxRecDepth 1000000 in
theorem ci_b605_0 : e2_idl 2 (al_b605_0.set 8 (9, 0, 0)) = true := by decide +kernel
set_option maxRecDepth 1000000 in
theorem cj_b605_0 : e2_idh 2 8 h_b605_0 = true := by decide +kernel
theorem cs_b605 (hen : en_ok) (l : Launch) (hh : e2_hand_b l) : e2_smOk l 65 s_b605 := by
  refine e2_conG (H := 62) (n := 2) (C := evd_274) (S := S_b605) (I := I_b605) (fuel := 4000) hen ei_274 (e2_fa ((cs_b551 hen l).mono (by decide)) (e2_fa (cs_b553 hen l hh) (e2_fa ((cs_b603 hen l).mono (by decide)) (e2_fa ((cs_b604 hen l).mono (by decide)) e2_fz)))) (e2_fa ein_212 (e2_fa ein_215 (e2_fa ein_216 (e2_fa ein_220 e2_fz)))) (by decide) co_b605 fun M d _ hC hcall p e R s m args below meth c Q D cA A ads r0 ha hl0 => ?_
  have L_0 : e2_gdM M p l e R s m args below meth c Q D cA A ads r0 60 al_b605_0 [] E_b605_0 h_b605_0 := by
    refine e2_indL (u := 2) (j := 8) (lo := 2147483648) (hi := 2147483668) (b := 2) (dd := 0) hl0 (by decide) rfl rfl (Or.inr ⟨rfl, rfl⟩) rfl ci_b605_0 cj_b605_0 ?_
    intro r_0 k_0 hk_0 hp_0 hs_0 hn_0
    have hl_0 : r_0.length ≤ 3 := hs_0.len rfl
    have ha_0 := ha.ext hp_0
    exact e2_fromM hen ha_0 hcall (e2_cutA_ok (e2_fa (fun al st E h hc => hn_0 al st E h hc) e2_fz)) (hC []) (X := e2x_274) ex2_274 60 ck_b605_0
  have EN_0 := e2_entL (u := 2) (j := 8) (lo := 2147483648) (hi := 2147483668) hl0 rfl rfl rfl ci_b605_0 cj_b605_0 L_0
  exact e2_from hen ha hcall (e2_cutA_ok (e2_fa (fun al st E h hc => EN_0 al st E h hc) e2_fz)) (hC []) (X := e2x_274) ex2_274 0 ck_b605_e
/-! b606 X10_heard -/
def as_b606 : List ev_V := [(2, 83, 0), (11, 0, 4294967295), (11, 0, 4294967295), (11, 0, 4294967295), (11, 2147483648, 2147483649)]
def E_b606 : e2_E := [(2147483648, 2147583648, 0, 0), (2147483648, 2147483656, 1, 0)]
def bc304 : ev_C := (54, [(0, 30, 0), (11, 0, 4294967295)])
def bn4375 : e2_Q1 := (bc0, bc304)
def bn4376 : e2_Q2 := (bn4375, bn1)
def bn4377 : e2_Q3 := (bn4376, bn5)
def bn4378 : e2_Q4 := (bn4377, bn13)
def bn4379 : e2_Q5 := (bn4378, bn3579)
def bn4380 : e2_Q6 := (bn4379, bn338)
def bn4381 : e2_Q1 := (bc304, bc3)
def bn4382 : e2_Q2 := (bn119, bn4381)
def bn4383 : e2_Q3 := (bn118, bn4382)
def bn4384 : e2_Q4 := (bn342, bn4383)
def bn4385 : e2_Q5 := (bn108, bn4384)
def bn4386 : e2_Q6 := (bn93, bn4385)
def bn4387 : e2_Q7 := (bn4380, bn4386)
def bn4388 : e2_Q1 := (bc68, bc304)
def bn4389 : e2_Q2 := (bn4388, bn128)
def bn4390 : e2_Q3 := (bn4389, bn132)
def bn4391 : e2_Q4 := (bn4390, bn140)
def bn4392 : e2_Q5 := (bn4391, bn156)
def bn4393 : e2_Q6 := (bn4392, bn735)
def bn4394 : e2_Q2 := (bn245, bn4381)
def bn4395 : e2_Q3 := (bn244, bn4394)
def bn4396 : e2_Q4 := (bn241, bn4395)
def bn4397 : e2_Q5 := (bn234, bn4396)
def bn4398 : e2_Q6 := (bn3557, bn4397)
def bn4399 : e2_Q7 := (bn4393, bn4398)
def bn4400 : e2_Q8 := (bn4387, bn4399)
noncomputable def f_b606 : ev_H := (bn4400 : e2_Q8)
noncomputable def q_b606_0 : ev_H := (bn4400 : e2_Q8)
noncomputable def rs_b606 : e2_Rs := [((11, 2147483647, 2147483677), q_b606_0)]
noncomputable def s_b606 : e2_Sm := (278, as_b606, E_b606, f_b606, rs_b606)
noncomputable def S_b606 : List e2_Sm := []
noncomputable def I_b606 : List e2_In := [(212, 3, e2x_212), (217, 1, e2x_217), (275, 1, e2x_275), (276, 2, e2x_276), (277, 3, e2x_277)]
set_option maxRecDepth 1000000 in
theorem ck_b606 : e2_run (e2_cal S_b606 I_b606 4000 3) (e2_fin rs_b606) e2x_278 (fun _ => false) (fun _ _ _ _ _ => false) 4000 (e2_seek e2x_278 0) (e2_al 5 as_b606) [] E_b606 f_b606 = true := by decide +kernel
set_option maxRecDepth 1000000 in
theorem co_b606 : e2_okSB E_b606.length as_b606 f_b606 rs_b606 = true := by decide +kernel
theorem cs_b606 (hen : en_ok) (l : Launch) : e2_smOk l 4 s_b606 := e2_con0 (H := 0) (n := 3) (C := evd_278) (S := S_b606) (I := I_b606) (fuel := 4000) [] hen ei_278 e2_fz (e2_fa ein_212 (e2_fa ein_217 (e2_fa ein_275 (e2_fa ein_276 (e2_fa ein_277 e2_fz))))) (by decide) co_b606 ex2_278 ck_b606
/-! b607 X10_doesFit -/
def as_b607 : List ev_V := [(2, 83, 0), (11, 2147483648, 4294967295), (11, 0, 4294967295)]
def E_b607 : e2_E := [(2147483648, 2147583648, 0, 0), (2147483648, 2147483656, 1, 0)]
def bn4401 : e2_Q5 := (bn4378, bn29)
def bn4402 : e2_Q6 := (bn4401, bn338)
def bn4403 : e2_Q7 := (bn4402, bn4386)
def bc305 : ev_C := (10, [(0, 0, 0), (2, 88, 0), (2, 115, 0), (2, 114, 0), (2, 86, 0), (2, 112, 0), (11, 2147483648, 2147483688), (2, 118, 0), (2, 120, 0), (2, 131, 0), (2, 91, 0), (11, 2147483648, 2147483668), (2, 123, 0), (11, 2147483648, 2147483649), (11, 2147483648, 2147485248), (2, 87, 0), (2, 84, 0), (2, 122, 0), (2, 100, 0), (2, 132, 0), (11, 2147483648, 2147483668), (11, 2147483648, 2147485248), (1, 0, 4294967296), (11, 2147483648, 2147483653), (11, 2147483648, 2147485248), (2, 93, 0), (2, 104, 0), (11, 2147483648, 2147483678), (2, 89, 0), (2, 92, 0), (2, 119, 0), (2, 90, 0), (2, 94, 0), (2, 103, 0), (11, 2147483648, 2147483688), (11, 0, 4294967295), (11, 0, 4294967295), (11, 2147483648, 2147485249), (11, 2147483648, 2147483653), (11, 2147483648, 2147483668), (2, 85, 0), (11, 0, 4294967295), (5, 0, 0), (2, 95, 0), (2, 96, 0), (2, 97, 0), (2, 98, 0), (2, 99, 0), (2, 101, 0), (2, 102, 0), (2, 105, 0), (2, 106, 0), (2, 107, 0), (2, 108, 0), (2, 109, 0), (2, 110, 0), (2, 111, 0), (11, 2147483648, 2147484768), (11, 2147482048, 2147483655), (11, 2147483648, 2147483738), (11, 2147483648, 2147483678), (11, 0, 4294967295), (11, 0, 4294967295), (11, 0, 4294967295), (11, 0, 4294967295), (11, 0, 4294967295), (2, 113, 0), (2, 116, 0), (2, 117, 0), (2, 121, 0), (11, 0, 4294967295), (11, 0, 4294967295), (2, 124, 0), (2, 125, 0), (11, 0, 4294967295), (2, 126, 0), (2, 127, 0), (2, 128, 0), (2, 129, 0), (2, 130, 0)])
def bn4404 : e2_Q1 := (bc305, bc3)
def bn4405 : e2_Q2 := (bn196, bn4404)
def bn4406 : e2_Q3 := (bn4405, bn201)
def bn4407 : e2_Q4 := (bn195, bn4406)
def bn4408 : e2_Q5 := (bn4407, bn365)
def bn4409 : e2_Q6 := (bn4408, bn4397)
def bn4410 : e2_Q7 := (bn4393, bn4409)
def bn4411 : e2_Q8 := (bn4403, bn4410)
noncomputable def f_b607 : ev_H := (bn4411 : e2_Q8)
noncomputable def q_b607_0 : ev_H := (bn4411 : e2_Q8)
noncomputable def rs_b607 : e2_Rs := [((11, 2147483648, 2147483649), q_b607_0)]
noncomputable def s_b607 : e2_Sm := (281, as_b607, E_b607, f_b607, rs_b607)
noncomputable def S_b607 : List e2_Sm := []
noncomputable def I_b607 : List e2_In := []
set_option maxRecDepth 1000000 in
theorem co_b607 : e2_okSB E_b607.length as_b607 f_b607 rs_b607 = true := by decide +kernel
def al_b607_0 : List ev_V := [(2, 83, 0), (11, 2147483648, 4294967295), (11, 0, 4294967295), (1, 2, 4294967296), (9, 0, 0)]
def E_b607_0 : e2_E := [(2147483648, 2147583648, 0, 0), (2147483648, 2147483656, 1, 0), (2147483648, 2147483678, 2, 0)]
noncomputable def h_b607_0 : ev_H := (bn4411 : e2_Q8)
noncomputable def cl_b607_e : List (Nat × e2_S) := [(2, e2_cutL (al_b607_0.set 3 (11, 2147483648, 2147483678)) 2 (E_b607_0.take 2) h_b607_0)]
set_option maxRecDepth 1000000 in
theorem ck_b607_e : e2_run (e2_cal S_b607 I_b607 4000 0) (e2_fin rs_b607) e2x_281 (e2_bpL cl_b607_e) (e2_cutA cl_b607_e) 4000 (e2_seek e2x_281 0) (e2_al 5 as_b607) [] E_b607 f_b607 = true := by decide +kernel
noncomputable def cl_b607_0 : List (Nat × e2_S) := [(2, e2_cutL (al_b607_0.set 3 (13, 10, 2147483678)) 2 (E_b607_0.take 2) h_b607_0)]
set_option maxRecDepth 1000000 in
theorem ck_b607_0 : e2_runM (e2_cal S_b607 I_b607 4000 0) (e2_fin rs_b607) e2x_281 (e2_bpL cl_b607_0) (e2_cutA cl_b607_0) 4000 (e2_seek e2x_281 2) al_b607_0 [] E_b607_0 h_b607_0 = true := by decide +kernel
set_option maxRecDepth 1000000 in
theorem ci_b607_0 : e2_idl 2 (al_b607_0.set 3 (9, 0, 0)) = true := by decide +kernel
set_option maxRecDepth 1000000 in
theorem cj_b607_0 : e2_idh 2 8 h_b607_0 = true := by decide +kernel
theorem cs_b607 (hen : en_ok) (l : Launch) : e2_smOk l 1 s_b607 := by
  refine e2_conG (H := 0) (n := 0) (C := evd_281) (S := S_b607) (I := I_b607) (fuel := 4000) hen ei_281 e2_fz e2_fz (by decide) co_b607 fun M d _ hC hcall p e R s m args below meth c Q D cA A ads r0 ha hl0 => ?_
  have L_0 : e2_gdM M p l e R s m args below meth c Q D cA A ads r0 2 al_b607_0 [] E_b607_0 h_b607_0 := by
    refine e2_indL (u := 2) (j := 3) (lo := 2147483648) (hi := 2147483678) (b := 2) (dd := 0) hl0 (by decide) rfl rfl (Or.inr ⟨rfl, rfl⟩) rfl ci_b607_0 cj_b607_0 ?_
    intro r_0 k_0 hk_0 hp_0 hs_0 hn_0
    have hl_0 : r_0.length ≤ 3 := hs_0.len rfl
    have ha_0 := ha.ext hp_0
    exact e2_fromM hen ha_0 hcall (e2_cutA_ok (e2_fa (fun al st E h hc => hn_0 al st E h hc) e2_fz)) (hC []) (X := e2x_281) ex2_281 2 ck_b607_0
  have EN_0 := e2_entL (u := 2) (j := 3) (lo := 2147483648) (hi := 2147483678) hl0 rfl rfl rfl ci_b607_0 cj_b607_0 L_0
  exact e2_from hen ha hcall (e2_cutA_ok (e2_fa (fun al st E h hc => EN_0 al st E h hc) e2_fz)) (hC []) (X := e2x_281) ex2_281 0 ck_b607_e
/-! b608 X10_layFit -/
def as_b608 : List ev_V := [(2, 83, 0), (11, 0, 4294967295)]
def E_b608 : e2_E := [(2147483648, 2147583648, 0, 0), (2147483648, 2147483656, 1, 0)]
def bc306 : ev_C := (54, [(0, 16, 0), (11, 0, 4294967295)])
def bn4412 : e2_Q1 := (bc35, bc306)
def bn4413 : e2_Q2 := (bn4412, bn64)
def bn4414 : e2_Q3 := (bn4413, bn68)
def bn4415 : e2_Q4 := (bn4414, bn76)
def bn4416 : e2_Q5 := (bn4415, bn92)
def bn4417 : e2_Q6 := (bn4416, bn4385)
def bn4418 : e2_Q7 := (bn4380, bn4417)
def bn4419 : e2_Q8 := (bn4418, bn4399)
noncomputable def f_b608 : ev_H := (bn4419 : e2_Q8)
def bn4420 : e2_Q8 := (bn4418, bn4410)
noncomputable def q_b608_0 : ev_H := (bn4420 : e2_Q8)
noncomputable def rs_b608 : e2_Rs := [((9, 0, 0), q_b608_0)]
noncomputable def s_b608 : e2_Sm := (282, as_b608, E_b608, f_b608, rs_b608)
noncomputable def S_b608 : List e2_Sm := [s_b607]
noncomputable def I_b608 : List e2_In := [(217, 1, e2x_217), (275, 1, e2x_275)]
set_option maxRecDepth 1000000 in
theorem co_b608 : e2_okSB E_b608.length as_b608 f_b608 rs_b608 = true := by decide +kernel
def al_b608_0 : List ev_V := [(2, 83, 0), (11, 0, 4294967295), (11, 2147483648, 2147483664), (1, 2, 4294967296), (9, 0, 0)]
def E_b608_0 : e2_E := [(2147483648, 2147583648, 0, 0), (2147483648, 2147483656, 1, 0), (2147483648, 2147483664, 2, 0)]
noncomputable def h_b608_0 : ev_H := (bn4419 : e2_Q8)
def al_b608_1 : List ev_V := [(2, 83, 0), (11, 0, 4294967295), (11, 2147483648, 2147483664), (1, 2, 4294967296), (9, 0, 0)]
def E_b608_1 : e2_E := [(2147483648, 2147583648, 0, 0), (2147483648, 2147483656, 1, 0), (2147483648, 4294967295, 2, 0)]
noncomputable def h_b608_1 : ev_H := (bn4420 : e2_Q8)
def al_b608_2 : List ev_V := [(2, 83, 0), (11, 0, 4294967295), (11, 2147483648, 2147483664), (1, 2, 4294967296), (1, 3, 4294967296)]
def E_b608_2 : e2_E := [(2147483648, 2147583648, 0, 0), (2147483648, 2147483656, 1, 0), (2147483648, 4294967294, 2, 0), (2147483648, 2147483664, 3, 0)]
noncomputable def h_b608_2 : ev_H := (bn4420 : e2_Q8)
noncomputable def cl_b608_e : List (Nat × e2_S) := [(17, e2_cutL (al_b608_0.set 3 (11, 2147483648, 2147483664)) 2 (E_b608_0.take 2) h_b608_0)]
set_option maxRecDepth 1000000 in
theorem ck_b608_e : e2_run (e2_cal S_b608 I_b608 4000 2) (e2_fin rs_b608) e2x_282 (e2_bpL cl_b608_e) (e2_cutA cl_b608_e) 4000 (e2_seek e2x_282 0) (e2_al 5 as_b608) [] E_b608 f_b608 = true := by decide +kernel
noncomputable def cl_b608_0 : List (Nat × e2_S) := [(17, e2_cutL (al_b608_0.set 3 (13, 10, 2147483664)) 2 (E_b608_0.take 2) h_b608_0),
  (37, e2_cutL (al_b608_1.set 3 (11, 2147483648, 4294967295)) 2 (E_b608_1.take 2) h_b608_1)]
set_option maxRecDepth 1000000 in
theorem ck_b608_0 : e2_runM (e2_cal S_b608 I_b608 4000 2) (e2_fin rs_b608) e2x_282 (e2_bpL cl_b608_0) (e2_cutA cl_b608_0) 4000 (e2_seek e2x_282 17) al_b608_0 [] E_b608_0 h_b608_0 = true := by decide +kernel
set_option maxRecDepth 1000000 in
theorem ci_b608_0 : e2_idl 2 (al_b608_0.set 3 (9, 0, 0)) = true := by decide +kernel
set_option maxRecDepth 1000000 in
theorem cj_b608_0 : e2_idh 2 8 h_b608_0 = true := by decide +kernel
noncomputable def cl_b608_1 : List (Nat × e2_S) := [(37, e2_cutL (al_b608_1.set 3 (13, 10, 4294967295)) 2 (E_b608_1.take 2) h_b608_1),
  (69, e2_cutL (al_b608_2.set 4 (11, 2147483648, 2147483664)) 3 (E_b608_2.take 3) h_b608_2)]
set_option maxRecDepth 1000000 in
theorem ck_b608_1 : e2_runM (e2_cal S_b608 I_b608 4000 2) (e2_fin rs_b608) e2x_282 (e2_bpL cl_b608_1) (e2_cutA cl_b608_1) 4000 (e2_seek e2x_282 37) al_b608_1 [] E_b608_1 h_b608_1 = true := by decide +kernel
set_option maxRecDepth 1000000 in
theorem ci_b608_1 : e2_idl 2 (al_b608_1.set 3 (9, 0, 0)) = true := by decide +kernel
set_option maxRecDepth 1000000 in
theorem cj_b608_1 : e2_idh 2 8 h_b608_1 = true := by decide +kernel
noncomputable def cl_b608_2 : List (Nat × e2_S) := [(37, e2_cutL (al_b608_1.set 3 (13, 10, 4294967295)) 2 (E_b608_1.take 2) h_b608_1),
  (69, e2_cutL (al_b608_2.set 4 (13, 11, 2147483664)) 3 (E_b608_2.take 3) h_b608_2)]
set_option maxRecDepth 1000000 in
theorem ck_b608_2 : e2_runM (e2_cal S_b608 I_b608 4000 2) (e2_fin rs_b608) e2x_282 (e2_bpL cl_b608_2) (e2_cutA cl_b608_2) 4000 (e2_seek e2x_282 69) al_b608_2 [] E_b608_2 h_b608_2 = true := by decide +kernel
set_option maxRecDepth 1000000 in
theorem ci_b608_2 : e2_idl 3 (al_b608_2.set 4 (9, 0, 0)) = true := by decide +kernel
set_option maxRecDepth 1000000 in
theorem cj_b608_2 : e2_idh 3 8 h_b608_2 = true := by decide +kernel
theorem cs_b608 (hen : en_ok) (l : Launch) : e2_smOk l 4 s_b608 := by
  refine e2_conG (H := 1) (n := 2) (C := evd_282) (S := S_b608) (I := I_b608) (fuel := 4000) hen ei_282 (e2_fa (cs_b607 hen l) e2_fz) (e2_fa ein_217 (e2_fa ein_275 e2_fz)) (by decide) co_b608 fun M d _ hC hcall p e R s m args below meth c Q D cA A ads r0 ha hl0 => ?_
  have L_1 : e2_gdM M p l e R s m args below meth c Q D cA A ads r0 37 al_b608_1 [] E_b608_1 h_b608_1 := by
    refine e2_indL (u := 2) (j := 3) (lo := 2147483648) (hi := 4294967295) (b := 2) (dd := 0) hl0 (by decide) rfl rfl (Or.inr ⟨rfl, rfl⟩) rfl ci_b608_1 cj_b608_1 ?_
    intro r_1 k_1 hk_1 hp_1 hs_1 hn_1
    have hl_1 : r_1.length ≤ 3 := hs_1.len rfl
    have ha_1 := ha.ext hp_1
    have L_2 : e2_gdM M p l e R s m args below meth c Q D cA A ads r_1 69 al_b608_2 [] E_b608_2 h_b608_2 := by
      refine e2_indL (u := 3) (j := 4) (lo := 2147483648) (hi := 2147483664) (b := 3) (dd := 0) hl_1 (by decide) rfl rfl (Or.inr ⟨rfl, rfl⟩) rfl ci_b608_2 cj_b608_2 ?_
      intro r_2 k_2 hk_2 hp_2 hs_2 hn_2
      have hl_2 : r_2.length ≤ 4 := hs_2.len rfl
      have ha_2 := ha_1.ext hp_2
      exact e2_fromM hen ha_2 hcall (e2_cutA_ok (e2_fa (fun al st E h hc => (hn_1 al st E h hc).ext hp_2) (e2_fa (fun al st E h hc => hn_2 al st E h hc) e2_fz))) (hC []) (X := e2x_282) ex2_282 69 ck_b608_2
    have EN_2 := e2_entL (u := 3) (j := 4) (lo := 2147483648) (hi := 2147483664) hl_1 rfl rfl rfl ci_b608_2 cj_b608_2 L_2
    exact e2_fromM hen ha_1 hcall (e2_cutA_ok (e2_fa (fun al st E h hc => hn_1 al st E h hc) (e2_fa (fun al st E h hc => EN_2 al st E h hc) e2_fz))) (hC []) (X := e2x_282) ex2_282 37 ck_b608_1
  have EN_1 := e2_entL (u := 2) (j := 3) (lo := 2147483648) (hi := 4294967295) hl0 rfl rfl rfl ci_b608_1 cj_b608_1 L_1
  have L_0 : e2_gdM M p l e R s m args below meth c Q D cA A ads r0 17 al_b608_0 [] E_b608_0 h_b608_0 := by
    refine e2_indL (u := 2) (j := 3) (lo := 2147483648) (hi := 2147483664) (b := 2) (dd := 0) hl0 (by decide) rfl rfl (Or.inr ⟨rfl, rfl⟩) rfl ci_b608_0 cj_b608_0 ?_
    intro r_0 k_0 hk_0 hp_0 hs_0 hn_0
    have hl_0 : r_0.length ≤ 3 := hs_0.len rfl
    have ha_0 := ha.ext hp_0
    exact e2_fromM hen ha_0 hcall (e2_cutA_ok (e2_fa (fun al st E h hc => hn_0 al st E h hc) (e2_fa (fun al st E h hc => (EN_1 al st E h hc).ext hp_0) e2_fz))) (hC []) (X := e2x_282) ex2_282 17 ck_b608_0
  have EN_0 := e2_entL (u := 2) (j := 3) (lo := 2147483648) (hi := 2147483664) hl0 rfl rfl rfl ci_b608_0 cj_b608_0 L_0
  exact e2_from hen ha hcall (e2_cutA_ok (e2_fa (fun al st E h hc => EN_0 al st E h hc) e2_fz)) (hC []) (X := e2x_282) ex2_282 0 ck_b608_e
/-! b609 X10_fit -/
def as_b609 : List ev_V := [(2, 83, 0), (11, 0, 4294967295)]
def E_b609 : e2_E := [(2147483648, 2147583648, 0, 0), (2147483648, 2147483656, 1, 0)]
noncomputable def f_b609 : ev_H := (bn4419 : e2_Q8)
noncomputable def q_b609_0 : ev_H := (bn4420 : e2_Q8)
noncomputable def rs_b609 : e2_Rs := [((11, 0, 4294967295), q_b609_0)]
noncomputable def s_b609 : e2_Sm := (283, as_b609, E_b609, f_b609, rs_b609)
noncomputable def S_b609 : List e2_Sm := [s_b608]
noncomputable def I_b609 : List e2_In := []
set_option maxRecDepth 1000000 in
theorem ck_b609 : e2_run (e2_cal S_b609 I_b609 4000 0) (e2_fin rs_b609) e2x_283 (fun _ => false) (fun _ _ _ _ _ => false) 4000 (e2_seek e2x_283 0) (e2_al 2 as_b609) [] E_b609 f_b609 = true := by decide +kernel
set_option maxRecDepth 1000000 in
theorem co_b609 : e2_okSB E_b609.length as_b609 f_b609 rs_b609 = true := by decide +kernel
theorem cs_b609 (hen : en_ok) (l : Launch) : e2_smOk l 5 s_b609 := e2_con0 (H := 4) (n := 0) (C := evd_283) (S := S_b609) (I := I_b609) (fuel := 4000) [] hen ei_283 (e2_fa (cs_b608 hen l) e2_fz) e2_fz (by decide) co_b609 ex2_283 ck_b609
/-! b610 X10_sure -/
def as_b610 : List ev_V := [(2, 83, 0), (11, 0, 4294967295), (11, 0, 4294967295), (11, 0, 4294967295)]
def E_b610 : e2_E := [(2147483648, 2147583648, 0, 0), (2147483648, 2147483656, 1, 0)]
noncomputable def f_b610 : ev_H := (bn4419 : e2_Q8)
noncomputable def q_b610_0 : ev_H := (bn4420 : e2_Q8)
noncomputable def rs_b610 : e2_Rs := [((11, 2147483646, 2147483649), q_b610_0)]
noncomputable def s_b610 : e2_Sm := (284, as_b610, E_b610, f_b610, rs_b610)
noncomputable def S_b610 : List e2_Sm := [s_b608]
noncomputable def I_b610 : List e2_In := [(212, 3, e2x_212), (217, 1, e2x_217), (275, 1, e2x_275), (276, 2, e2x_276)]
set_option maxRecDepth 1000000 in
theorem ck_b610 : e2_run (e2_cal S_b610 I_b610 4000 3) (e2_fin rs_b610) e2x_284 (fun _ => false) (fun _ _ _ _ _ => false) 4000 (e2_seek e2x_284 0) (e2_al 5 as_b610) [] E_b610 f_b610 = true := by decide +kernel
set_option maxRecDepth 1000000 in
theorem co_b610 : e2_okSB E_b610.length as_b610 f_b610 rs_b610 = true := by decide +kernel
theorem cs_b610 (hen : en_ok) (l : Launch) : e2_smOk l 8 s_b610 := e2_con0 (H := 4) (n := 3) (C := evd_284) (S := S_b610) (I := I_b610) (fuel := 4000) [] hen ei_284 (e2_fa (cs_b608 hen l) e2_fz) (e2_fa ein_212 (e2_fa ein_217 (e2_fa ein_275 (e2_fa ein_276 e2_fz)))) (by decide) co_b610 ex2_284 ck_b610
/-! b611 X10_ask -/
def as_b611 : List ev_V := [(2, 83, 0), (11, 0, 4294967295), (11, 0, 4294967295)]
def E_b611 : e2_E := [(2147483648, 2147583648, 0, 0), (2147483648, 2147483656, 1, 0)]
noncomputable def f_b611 : ev_H := (bn4419 : e2_Q8)
noncomputable def q_b611_0 : ev_H := (bn4420 : e2_Q8)
noncomputable def rs_b611 : e2_Rs := [((11, 0, 4294967295), q_b611_0)]
noncomputable def s_b611 : e2_Sm := (285, as_b611, E_b611, f_b611, rs_b611)
noncomputable def S_b611 : List e2_Sm := [s_b608]
noncomputable def I_b611 : List e2_In := [(212, 3, e2x_212), (217, 1, e2x_217), (275, 1, e2x_275)]
set_option maxRecDepth 1000000 in
theorem co_b611 : e2_okSB E_b611.length as_b611 f_b611 rs_b611 = true := by decide +kernel
def al_b611_0 : List ev_V := [(2, 83, 0), (11, 2147483648, 2147483649), (11, 0, 4294967295), (11, 2147483648, 2147483663), (11, 0, 4294967295), (1, 2, 4294967296), (9, 0, 0)]
def E_b611_0 : e2_E := [(2147483648, 2147583648, 0, 0), (2147483649, 2147483656, 1, 0), (2147483648, 2147483664, 2, 0)]
noncomputable def h_b611_0 : ev_H := (bn4420 : e2_Q8)
noncomputable def cl_b611_e : List (Nat × e2_S) := [(45, e2_cutL (al_b611_0.set 5 (11, 2147483648, 2147483664)) 2 (E_b611_0.take 2) h_b611_0)]
set_option maxRecDepth 1000000 in
theorem ck_b611_e : e2_run (e2_cal S_b611 I_b611 4000 2) (e2_fin rs_b611) e2x_285 (e2_bpL cl_b611_e) (e2_cutA cl_b611_e) 4000 (e2_seek e2x_285 0) (e2_al 7 as_b611) [] E_b611 f_b611 = true := by decide +kernel
noncomputable def cl_b611_0 : List (Nat × e2_S) := [(45, e2_cutL (al_b611_0.set 5 (13, 10, 2147483664)) 2 (E_b611_0.take 2) h_b611_0)]
set_option maxRecDepth 1000000 in
theorem ck_b611_0 : e2_runM (e2_cal S_b611 I_b611 4000 2) (e2_fin rs_b611) e2x_285 (e2_bpL cl_b611_0) (e2_cutA cl_b611_0) 4000 (e2_seek e2x_285 45) al_b611_0 [] E_b611_0 h_b611_0 = true := by decide +kernel
set_option maxRecDepth 1000000 in
theorem ci_b611_0 : e2_idl 2 (al_b611_0.set 5 (9, 0, 0)) = true := by decide +kernel
set_option maxRecDepth 1000000 in
theorem cj_b611_0 : e2_idh 2 8 h_b611_0 = true := by decide +kernel
theorem cs_b611 (hen : en_ok) (l : Launch) : e2_smOk l 7 s_b611 := by
  refine e2_conG (H := 4) (n := 2) (C := evd_285) (S := S_b611) (I := I_b611) (fuel := 4000) hen ei_285 (e2_fa (cs_b608 hen l) e2_fz) (e2_fa ein_212 (e2_fa ein_217 (e2_fa ein_275 e2_fz))) (by decide) co_b611 fun M d _ hC hcall p e R s m args below meth c Q D cA A ads r0 ha hl0 => ?_
  have L_0 : e2_gdM M p l e R s m args below meth c Q D cA A ads r0 45 al_b611_0 [] E_b611_0 h_b611_0 := by
    refine e2_indL (u := 2) (j := 5) (lo := 2147483648) (hi := 2147483664) (b := 2) (dd := 0) hl0 (by decide) rfl rfl (Or.inr ⟨rfl, rfl⟩) rfl ci_b611_0 cj_b611_0 ?_
    intro r_0 k_0 hk_0 hp_0 hs_0 hn_0
    have hl_0 : r_0.length ≤ 3 := hs_0.len rfl
    have ha_0 := ha.ext hp_0
    exact e2_fromM hen ha_0 hcall (e2_cutA_ok (e2_fa (fun al st E h hc => hn_0 al st E h hc) e2_fz)) (hC []) (X := e2x_285) ex2_285 45 ck_b611_0
  have EN_0 := e2_entL (u := 2) (j := 5) (lo := 2147483648) (hi := 2147483664) hl0 rfl rfl rfl ci_b611_0 cj_b611_0 L_0
  exact e2_from hen ha hcall (e2_cutA_ok (e2_fa (fun al st E h hc => EN_0 al st E h hc) e2_fz)) (hC []) (X := e2x_285) ex2_285 0 ck_b611_e
/-! b612 X10_image -/
def as_b612 : List ev_V := [(2, 83, 0), (11, 0, 4294967295)]
def E_b612 : e2_E := [(2147483648, 2147583648, 0, 0), (2147483648, 2147483656, 1, 0)]
def bc307 : ev_C := (50, [(11, 0, 4294967295), (11, 0, 4294967295), (11, 0, 4294967295), (11, 0, 4294967295), (11, 0, 4294967295), (11, 0, 4294967295), (11, 0, 4294967295), (11, 0, 4294967295), (11, 0, 4294967295), (11, 0, 4294967295), (11, 0, 4294967295), (11, 0, 4294967295), (11, 0, 4294967295), (11, 0, 4294967295), (11, 0, 4294967295), (11, 0, 4294967295), (11, 0, 4294967295), (11, 0, 4294967295), (11, 0, 4294967295), (11, 0, 4294967295), (11, 0, 4294967295), (11, 0, 4294967295), (11, 0, 4294967295), (11, 0, 4294967295), (11, 0, 4294967295), (11, 2147483648, 2147484647), (11, 0, 4294967295), (11, 0, 4294967295), (11, 0, 4294967295), (11, 0, 4294967295), (11, 0, 4294967295), (11, 0, 4294967295), (11, 0, 4294967295), (11, 0, 4294967295), (11, 0, 4294967295), (11, 0, 4294967295), (11, 0, 4294967295), (11, 0, 4294967295), (11, 0, 4294967295), (11, 0, 4294967295), (11, 0, 4294967295), (11, 0, 4294967295), (11, 0, 4294967295), (11, 0, 4294967295), (11, 0, 4294967295), (11, 0, 4294967295), (11, 0, 4294967295), (11, 0, 4294967295), (11, 0, 4294967295), (11, 0, 4294967295), (11, 0, 4294967295), (11, 2147483648, 2147484647), (11, 0, 4294967295), (11, 0, 4294967295), (11, 0, 4294967295), (11, 0, 4294967295), (11, 0, 4294967295), (11, 0, 4294967295), (11, 0, 4294967295), (11, 0, 4294967295), (11, 0, 4294967295), (11, 0, 4294967295), (11, 0, 4294967295), (11, 0, 4294967295), (11, 0, 4294967295), (11, 0, 4294967295), (11, 0, 4294967295), (11, 0, 4294967295), (11, 0, 4294967295), (11, 0, 4294967295), (11, 0, 4294967295), (11, 0, 4294967295), (11, 0, 4294967295), (11, 0, 4294967295), (11, 0, 4294967295), (11, 0, 4294967295), (11, 0, 4294967295), (11, 2147483648, 2147484647)])
def bn4421 : e2_Q1 := (bc100, bc307)
def bn4422 : e2_Q2 := (bn4421, bn190)
def bn4423 : e2_Q3 := (bn4422, bn194)
def bn4424 : e2_Q4 := (bn4423, bn721)
def bn4425 : e2_Q5 := (bn4424, bn365)
def bn4426 : e2_Q6 := (bn4425, bn250)
def bn4427 : e2_Q7 := (bn736, bn4426)
def bn4428 : e2_Q8 := (bn824, bn4427)
noncomputable def f_b612 : ev_H := (bn4428 : e2_Q8)
noncomputable def q_b612_0 : ev_H := (bn4428 : e2_Q8)
noncomputable def rs_b612 : e2_Rs := [((11, 0, 4294967295), q_b612_0)]
noncomputable def s_b612 : e2_Sm := (286, as_b612, E_b612, f_b612, rs_b612)
noncomputable def S_b612 : List e2_Sm := []
noncomputable def I_b612 : List e2_In := [(212, 3, e2x_212)]
set_option maxRecDepth 1000000 in
theorem co_b612 : e2_okSB E_b612.length as_b612 f_b612 rs_b612 = true := by decide +kernel
def al_b612_0 : List ev_V := [(2, 83, 0), (11, 2147483648, 2147483650), (1, 2, 4294967296)]
def E_b612_0 : e2_E := [(2147483648, 2147583648, 0, 0), (2147483648, 2147483656, 1, 0), (2147483648, 2147483674, 2, 0)]
noncomputable def h_b612_0 : ev_H := (bn4428 : e2_Q8)
noncomputable def cl_b612_e : List (Nat × e2_S) := [(13, e2_cutL (al_b612_0.set 2 (11, 2147483648, 2147483674)) 2 (E_b612_0.take 2) h_b612_0)]
set_option maxRecDepth 1000000 in
theorem ck_b612_e : e2_run (e2_cal S_b612 I_b612 4000 1) (e2_fin rs_b612) e2x_286 (e2_bpL cl_b612_e) (e2_cutA cl_b612_e) 4000 (e2_seek e2x_286 0) (e2_al 3 as_b612) [] E_b612 f_b612 = true := by decide +kernel
noncomputable def cl_b612_0 : List (Nat × e2_S) := [(13, e2_cutL (al_b612_0.set 2 (13, 10, 2147483674)) 2 (E_b612_0.take 2) h_b612_0)]
set_option maxRecDepth 1000000 in
theorem ck_b612_0 : e2_runM (e2_cal S_b612 I_b612 4000 1) (e2_fin rs_b612) e2x_286 (e2_bpL cl_b612_0) (e2_cutA cl_b612_0) 4000 (e2_seek e2x_286 13) al_b612_0 [] E_b612_0 h_b612_0 = true := by decide +kernel
set_option maxRecDepth 1000000 in
theorem ci_b612_0 : e2_idl 2 (al_b612_0.set 2 (9, 0, 0)) = true := by decide +kernel
set_option maxRecDepth 1000000 in
theorem cj_b612_0 : e2_idh 2 8 h_b612_0 = true := by decide +kernel
theorem cs_b612 (hen : en_ok) (l : Launch) : e2_smOk l 2 s_b612 := by
  refine e2_conG (H := 0) (n := 1) (C := evd_286) (S := S_b612) (I := I_b612) (fuel := 4000) hen ei_286 e2_fz (e2_fa ein_212 e2_fz) (by decide) co_b612 fun M d _ hC hcall p e R s m args below meth c Q D cA A ads r0 ha hl0 => ?_
  have L_0 : e2_gdM M p l e R s m args below meth c Q D cA A ads r0 13 al_b612_0 [] E_b612_0 h_b612_0 := by
    refine e2_indL (u := 2) (j := 2) (lo := 2147483648) (hi := 2147483674) (b := 2) (dd := 0) hl0 (by decide) rfl rfl (Or.inr ⟨rfl, rfl⟩) rfl ci_b612_0 cj_b612_0 ?_
    intro r_0 k_0 hk_0 hp_0 hs_0 hn_0
    have hl_0 : r_0.length ≤ 3 := hs_0.len rfl
    have ha_0 := ha.ext hp_0
    exact e2_fromM hen ha_0 hcall (e2_cutA_ok (e2_fa (fun al st E h hc => hn_0 al st E h hc) e2_fz)) (hC [25, 27]) (X := e2x_286) ex2_286 13 ck_b612_0
  have EN_0 := e2_entL (u := 2) (j := 2) (lo := 2147483648) (hi := 2147483674) hl0 rfl rfl rfl ci_b612_0 cj_b612_0 L_0
  exact e2_from hen ha hcall (e2_cutA_ok (e2_fa (fun al st E h hc => EN_0 al st E h hc) e2_fz)) (hC [25, 27]) (X := e2x_286) ex2_286 0 ck_b612_e
/-! b613 X10_back -/
def as_b613 : List ev_V := [(2, 83, 0), (11, 0, 4294967295)]
def E_b613 : e2_E := [(2147483648, 2147583648, 0, 0), (2147483648, 2147483656, 1, 0)]
noncomputable def f_b613 : ev_H := (bn4428 : e2_Q8)
noncomputable def q_b613_0 : ev_H := (bn4428 : e2_Q8)
noncomputable def rs_b613 : e2_Rs := [((11, 0, 4294967295), q_b613_0)]
noncomputable def s_b613 : e2_Sm := (287, as_b613, E_b613, f_b613, rs_b613)
noncomputable def S_b613 : List e2_Sm := []
noncomputable def I_b613 : List e2_In := [(212, 3, e2x_212)]
set_option maxRecDepth 1000000 in
theorem co_b613 : e2_okSB E_b613.length as_b613 f_b613 rs_b613 = true := by decide +kernel
def al_b613_0 : List ev_V := [(2, 83, 0), (11, 2147483648, 2147483650), (1, 2, 4294967296)]
def E_b613_0 : e2_E := [(2147483648, 2147583648, 0, 0), (2147483648, 2147483656, 1, 0), (2147483648, 2147483674, 2, 0)]
noncomputable def h_b613_0 : ev_H := (bn4428 : e2_Q8)
noncomputable def cl_b613_e : List (Nat × e2_S) := [(22, e2_cutL (al_b613_0.set 2 (11, 2147483648, 2147483674)) 2 (E_b613_0.take 2) h_b613_0)]
set_option maxRecDepth 1000000 in
theorem ck_b613_e : e2_run (e2_cal S_b613 I_b613 4000 1) (e2_fin rs_b613) e2x_287 (e2_bpL cl_b613_e) (e2_cutA cl_b613_e) 4000 (e2_seek e2x_287 0) (e2_al 3 as_b613) [] E_b613 f_b613 = true := by decide +kernel
noncomputable def cl_b613_0 : List (Nat × e2_S) := [(22, e2_cutL (al_b613_0.set 2 (13, 10, 2147483674)) 2 (E_b613_0.take 2) h_b613_0)]
set_option maxRecDepth 1000000 in
theorem ck_b613_0 : e2_runM (e2_cal S_b613 I_b613 4000 1) (e2_fin rs_b613) e2x_287 (e2_bpL cl_b613_0) (e2_cutA cl_b613_0) 4000 (e2_seek e2x_287 22) al_b613_0 [] E_b613_0 h_b613_0 = true := by decide +kernel
set_option maxRecDepth 1000000 in
theorem ci_b613_0 : e2_idl 2 (al_b613_0.set 2 (9, 0, 0)) = true := by decide +kernel
set_option maxRecDepth 1000000 in
theorem cj_b613_0 : e2_idh 2 8 h_b613_0 = true := by decide +kernel
theorem cs_b613 (hen : en_ok) (l : Launch) : e2_smOk l 2 s_b613 := by
  refine e2_conG (H := 0) (n := 1) (C := evd_287) (S := S_b613) (I := I_b613) (fuel := 4000) hen ei_287 e2_fz (e2_fa ein_212 e2_fz) (by decide) co_b613 fun M d _ hC hcall p e R s m args below meth c Q D cA A ads r0 ha hl0 => ?_
  have L_0 : e2_gdM M p l e R s m args below meth c Q D cA A ads r0 22 al_b613_0 [] E_b613_0 h_b613_0 := by
    refine e2_indL (u := 2) (j := 2) (lo := 2147483648) (hi := 2147483674) (b := 2) (dd := 0) hl0 (by decide) rfl rfl (Or.inr ⟨rfl, rfl⟩) rfl ci_b613_0 cj_b613_0 ?_
    intro r_0 k_0 hk_0 hp_0 hs_0 hn_0
    have hl_0 : r_0.length ≤ 3 := hs_0.len rfl
    have ha_0 := ha.ext hp_0
    exact e2_fromM hen ha_0 hcall (e2_cutA_ok (e2_fa (fun al st E h hc => hn_0 al st E h hc) e2_fz)) (hC [32, 39]) (X := e2x_287) ex2_287 22 ck_b613_0
  have EN_0 := e2_entL (u := 2) (j := 2) (lo := 2147483648) (hi := 2147483674) hl0 rfl rfl rfl ci_b613_0 cj_b613_0 L_0
  exact e2_from hen ha hcall (e2_cutA_ok (e2_fa (fun al st E h hc => EN_0 al st E h hc) e2_fz)) (hC [32, 39]) (X := e2x_287) ex2_287 0 ck_b613_e
/-! b614 X10_about -/
def as_b614 : List ev_V := [(2, 83, 0), (11, 0, 4294967295)]
def E_b614 : e2_E := [(2147483648, 2147583648, 0, 0), (2147483648, 2147483656, 1, 0)]
def bn4429 : e2_Q5 := (bn699, bn3579)
def bn4430 : e2_Q5 := (bn45, bn756)
def bn4431 : e2_Q6 := (bn4429, bn4430)
def bn4432 : e2_Q7 := (bn4431, bn3555)
def bn4433 : e2_Q6 := (bn777, bn735)
def bn4434 : e2_Q6 := (bn3561, bn1384)
def bn4435 : e2_Q7 := (bn4433, bn4434)
def bn4436 : e2_Q8 := (bn4432, bn4435)
noncomputable def f_b614 : ev_H := (bn4436 : e2_Q8)
noncomputable def q_b614_0 : ev_H := (bn4436 : e2_Q8)
noncomputable def rs_b614 : e2_Rs := [((11, 0, 4294967295), q_b614_0)]
noncomputable def s_b614 : e2_Sm := (288, as_b614, E_b614, f_b614, rs_b614)
noncomputable def S_b614 : List e2_Sm := [s_b550]
noncomputable def I_b614 : List e2_In := [(216, 1, e2x_216), (217, 1, e2x_217)]
set_option maxRecDepth 1000000 in
theorem ck_b614 : e2_run (e2_cal S_b614 I_b614 4000 1) (e2_fin rs_b614) e2x_288 (fun _ => false) (fun _ _ _ _ _ => false) 4000 (e2_seek e2x_288 0) (e2_al 2 as_b614) [] E_b614 f_b614 = true := by decide +kernel
set_option maxRecDepth 1000000 in
theorem co_b614 : e2_okSB E_b614.length as_b614 f_b614 rs_b614 = true := by decide +kernel
theorem cs_b614 (hen : en_ok) (l : Launch) : e2_smOk l 4 s_b614 := e2_con0 (H := 2) (n := 1) (C := evd_288) (S := S_b614) (I := I_b614) (fuel := 4000) [] hen ei_288 (e2_fa (cs_b550 hen l) e2_fz) (e2_fa ein_216 (e2_fa ein_217 e2_fz)) (by decide) co_b614 ex2_288 ck_b614
/-! b615 X10_feed -/
def as_b615 : List ev_V := [(2, 83, 0), (11, 0, 4294967295), (11, 0, 4294967295), (11, 0, 4294967295), (11, 0, 4294967295), (11, 0, 4294967295)]
def E_b615 : e2_E := [(2147483648, 2147583648, 0, 0), (2147483648, 2147483656, 1, 0)]
def bn4437 : e2_Q4 := (bn37, bn2699)
def bn4438 : e2_Q5 := (bn4437, bn337)
def bn4439 : e2_Q6 := (bn30, bn4438)
def bn4440 : e2_Q7 := (bn4439, bn345)
def bn4441 : e2_Q8 := (bn4440, bn3559)
noncomputable def f_b615 : ev_H := (bn4441 : e2_Q8)
def bc308 : ev_C := (10, [(0, 0, 0), (2, 88, 0), (2, 115, 0), (2, 114, 0), (2, 86, 0), (2, 112, 0), (11, 2147483648, 2147483688), (2, 118, 0), (2, 120, 0), (2, 131, 0), (2, 91, 0), (11, 2147483648, 2147483668), (2, 123, 0), (11, 2147483648, 2147483649), (11, 2147483668, 2147485248), (2, 87, 0), (2, 84, 0), (2, 122, 0), (2, 100, 0), (2, 132, 0), (11, 2147483648, 2147483668), (11, 2147483648, 2147485248), (1, 0, 4294967296), (11, 2147483648, 2147483653), (11, 2147483648, 2147485248), (2, 93, 0), (2, 104, 0), (11, 2147483648, 2147483678), (2, 89, 0), (2, 92, 0), (2, 119, 0), (2, 90, 0), (2, 94, 0), (2, 103, 0), (11, 2147483648, 2147483688), (11, 2147483648, 2147549184), (11, 0, 4294967295), (11, 2147483648, 2147485249), (11, 2147483648, 2147483653), (11, 2147483648, 2147483668), (2, 85, 0), (11, 0, 4294967295), (5, 0, 0), (2, 95, 0), (2, 96, 0), (2, 97, 0), (2, 98, 0), (2, 99, 0), (2, 101, 0), (2, 102, 0), (2, 105, 0), (2, 106, 0), (2, 107, 0), (2, 108, 0), (2, 109, 0), (2, 110, 0), (2, 111, 0), (11, 2147483648, 2147484768), (11, 2147482048, 2147483655), (11, 2147483648, 2147483738), (11, 2147483648, 2147483678), (11, 0, 4294967295), (11, 0, 4294967295), (11, 0, 4294967295), (11, 0, 4294967295), (11, 0, 4294967295), (2, 113, 0), (2, 116, 0), (2, 117, 0), (2, 121, 0), (11, 0, 4294967295), (11, 0, 4294967295), (2, 124, 0), (2, 125, 0), (11, 0, 4294967295), (2, 126, 0), (2, 127, 0), (2, 128, 0), (2, 129, 0), (2, 130, 0)])
def bn4442 : e2_Q1 := (bc308, bc3)
def bn4443 : e2_Q2 := (bn196, bn4442)
def bn4444 : e2_Q3 := (bn4443, bn201)
def bn4445 : e2_Q4 := (bn195, bn4444)
def bn4446 : e2_Q5 := (bn4445, bn365)
def bn4447 : e2_Q6 := (bn4446, bn250)
def bn4448 : e2_Q7 := (bn736, bn4447)
def bn4449 : e2_Q8 := (bn4440, bn4448)
noncomputable def q_b615_0 : ev_H := (bn4449 : e2_Q8)
noncomputable def rs_b615 : e2_Rs := [((11, 2147483647, 2147485248), q_b615_0)]
noncomputable def s_b615 : e2_Sm := (289, as_b615, E_b615, f_b615, rs_b615)
noncomputable def S_b615 : List e2_Sm := []
noncomputable def I_b615 : List e2_In := []
set_option maxRecDepth 1000000 in
theorem co_b615 : e2_okSB E_b615.length as_b615 f_b615 rs_b615 = true := by decide +kernel
def al_b615_0 : List ev_V := [(2, 83, 0), (11, 0, 4294967295), (11, 0, 4294967295), (11, 0, 4294967295), (11, 0, 4294967295), (11, 0, 4294967295), (1, 2, 4294967296), (9, 0, 0)]
def E_b615_0 : e2_E := [(2147483648, 2147583648, 0, 0), (2147483648, 2147483656, 1, 0), (2147483648, 2147483668, 2, 0)]
def bc309 : ev_C := (10, [(0, 0, 0), (2, 88, 0), (2, 115, 0), (2, 114, 0), (2, 86, 0), (2, 112, 0), (11, 2147483648, 2147483688), (2, 118, 0), (2, 120, 0), (2, 131, 0), (2, 91, 0), (11, 2147483648, 2147483668), (2, 123, 0), (11, 2147483648, 2147483649), (11, 2147483648, 2147485228), (2, 87, 0), (2, 84, 0), (2, 122, 0), (2, 100, 0), (2, 132, 0), (11, 2147483648, 2147483668), (11, 2147483648, 2147485248), (1, 0, 4294967296), (11, 2147483648, 2147483653), (11, 2147483648, 2147485248), (2, 93, 0), (2, 104, 0), (11, 2147483648, 2147483678), (2, 89, 0), (2, 92, 0), (2, 119, 0), (2, 90, 0), (2, 94, 0), (2, 103, 0), (11, 2147483648, 2147483688), (11, 2147483648, 2147549184), (11, 0, 4294967295), (11, 2147483648, 2147485249), (11, 2147483648, 2147483653), (11, 2147483648, 2147483668), (2, 85, 0), (11, 0, 4294967295), (5, 0, 0), (2, 95, 0), (2, 96, 0), (2, 97, 0), (2, 98, 0), (2, 99, 0), (2, 101, 0), (2, 102, 0), (2, 105, 0), (2, 106, 0), (2, 107, 0), (2, 108, 0), (2, 109, 0), (2, 110, 0), (2, 111, 0), (11, 2147483648, 2147484768), (11, 2147482048, 2147483655), (11, 2147483648, 2147483738), (11, 2147483648, 2147483678), (11, 0, 4294967295), (11, 0, 4294967295), (11, 0, 4294967295), (11, 0, 4294967295), (11, 0, 4294967295), (2, 113, 0), (2, 116, 0), (2, 117, 0), (2, 121, 0), (11, 0, 4294967295), (11, 0, 4294967295), (2, 124, 0), (2, 125, 0), (11, 0, 4294967295), (2, 126, 0), (2, 127, 0), (2, 128, 0), (2, 129, 0), (2, 130, 0)])
def bn4450 : e2_Q1 := (bc309, bc3)
def bn4451 : e2_Q2 := (bn196, bn4450)
def bn4452 : e2_Q3 := (bn4451, bn201)
def bn4453 : e2_Q4 := (bn195, bn4452)
def bn4454 : e2_Q5 := (bn4453, bn365)
def bn4455 : e2_Q6 := (bn4454, bn250)
def bn4456 : e2_Q7 := (bn736, bn4455)
def bn4457 : e2_Q8 := (bn4440, bn4456)
noncomputable def h_b615_0 : ev_H := (bn4457 : e2_Q8)
noncomputable def cl_b615_e : List (Nat × e2_S) := [(18, e2_cutL (al_b615_0.set 6 (11, 2147483648, 2147483668)) 2 (E_b615_0.take 2) h_b615_0)]
set_option maxRecDepth 1000000 in
theorem ck_b615_e : e2_run (e2_cal S_b615 I_b615 4000 0) (e2_fin rs_b615) e2x_289 (e2_bpL cl_b615_e) (e2_cutA cl_b615_e) 4000 (e2_seek e2x_289 0) (e2_al 8 as_b615) [] E_b615 f_b615 = true := by decide +kernel
noncomputable def cl_b615_0 : List (Nat × e2_S) := [(18, e2_cutL (al_b615_0.set 6 (13, 10, 2147483668)) 2 (E_b615_0.take 2) h_b615_0)]
set_option maxRecDepth 1000000 in
theorem ck_b615_0 : e2_runM (e2_cal S_b615 I_b615 4000 0) (e2_fin rs_b615) e2x_289 (e2_bpL cl_b615_0) (e2_cutA cl_b615_0) 4000 (e2_seek e2x_289 18) al_b615_0 [] E_b615_0 h_b615_0 = true := by decide +kernel
set_option maxRecDepth 1000000 in
theorem ci_b615_0 : e2_idl 2 (al_b615_0.set 6 (9, 0, 0)) = true := by decide +kernel
set_option maxRecDepth 1000000 in
theorem cj_b615_0 : e2_idh 2 8 h_b615_0 = true := by decide +kernel
theorem cs_b615 (hen : en_ok) (l : Launch) : e2_smOk l 1 s_b615 := by
  refine e2_conG (H := 0) (n := 0) (C := evd_289) (S := S_b615) (I := I_b615) (fuel := 4000) hen ei_289 e2_fz e2_fz (by decide) co_b615 fun M d _ hC hcall p e R s m args below meth c Q D cA A ads r0 ha hl0 => ?_
  have L_0 : e2_gdM M p l e R s m args below meth c Q D cA A ads r0 18 al_b615_0 [] E_b615_0 h_b615_0 := by
    refine e2_indL (u := 2) (j := 6) (lo := 2147483648) (hi := 2147483668) (b := 2) (dd := 0) hl0 (by decide) rfl rfl (Or.inr ⟨rfl, rfl⟩) rfl ci_b615_0 cj_b615_0 ?_
    intro r_0 k_0 hk_0 hp_0 hs_0 hn_0
    have hl_0 : r_0.length ≤ 3 := hs_0.len rfl
    have ha_0 := ha.ext hp_0
    exact e2_fromM hen ha_0 hcall (e2_cutA_ok (e2_fa (fun al st E h hc => hn_0 al st E h hc) e2_fz)) (hC []) (X := e2x_289) ex2_289 18 ck_b615_0
  have EN_0 := e2_entL (u := 2) (j := 6) (lo := 2147483648) (hi := 2147483668) hl0 rfl rfl rfl ci_b615_0 cj_b615_0 L_0
  exact e2_from hen ha hcall (e2_cutA_ok (e2_fa (fun al st E h hc => EN_0 al st E h hc) e2_fz)) (hC []) (X := e2x_289) ex2_289 0 ck_b615_e
