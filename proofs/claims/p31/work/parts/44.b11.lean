/-! CONTRACTS b, printed by a program -/
/-! b640 X10_cows -/
def as_b640 : List ev_V := [(2, 83, 0), (11, 0, 4294967295), (11, 0, 4294967295)]
def E_b640 : e2_E := [(2147483648, 2147583648, 0, 0), (2147483648, 2147483656, 1, 0)]
noncomputable def f_b640 : ev_H := (bn4258 : e2_Q8)
noncomputable def q_b640_0 : ev_H := (bn4258 : e2_Q8)
noncomputable def rs_b640 : e2_Rs := [((11, 0, 4294967295), q_b640_0)]
noncomputable def s_b640 : e2_Sm := (271, as_b640, E_b640, f_b640, rs_b640)
noncomputable def S_b640 : List e2_Sm := [s_b167, s_b551, s_b552, s_b603, s_b604, s_b605]
noncomputable def I_b640 : List e2_In := [(212, 3, e2x_212), (215, 2, e2x_215), (216, 1, e2x_216), (220, 2, e2x_220)]
set_option maxRecDepth 1000000 in
theorem co_b640 : e2_okSB E_b640.length as_b640 f_b640 rs_b640 = true := by decide +kernel
def al_b640_0 : List ev_V := [(2, 83, 0), (11, 2147483648, 2147483651), (11, 2147483648, 2147483649), (11, 0, 4294967295), (11, 0, 4294967295), (1, 2, 4294967296)]
def E_b640_0 : e2_E := [(2147483648, 2147583648, 0, 0), (2147483648, 2147483656, 1, 0), (2147483648, 2147483668, 2, 0)]
noncomputable def h_b640_0 : ev_H := (bn4258 : e2_Q8)
noncomputable def cl_b640_e : List (Nat × e2_S) := [(36, e2_cutL (al_b640_0.set 5 (11, 2147483648, 2147483668)) 2 (E_b640_0.take 2) h_b640_0)]
set_option maxRecDepth 1000000 in
theorem ck_b640_e : e2_run (e2_cal S_b640 I_b640 4000 2) (e2_fin rs_b640) e2x_271 (e2_bpL cl_b640_e) (e2_cutA cl_b640_e) 4000 (e2_seek e2x_271 0) (e2_al 6 as_b640) [] E_b640 f_b640 = true := by decide +kernel
noncomputable def cl_b640_0 : List (Nat × e2_S) := [(36, e2_cutL (al_b640_0.set 5 (13, 10, 2147483668)) 2 (E_b640_0.take 2) h_b640_0)]
set_option maxRecDepth 1000000 in
theorem ck_b640_0 : e2_runM (e2_cal S_b640 I_b640 4000 2) (e2_fin rs_b640) e2x_271 (e2_bpL cl_b640_0) (e2_cutA cl_b640_0) 4000 (e2_seek e2x_271 36) al_b640_0 [] E_b640_0 h_b640_0 = true := by decide +kernel
set_option maxRecDepth 1000000 in
theorem ci_b640_0 : e2_idl 2 (al_b640_0.set 5 (9, 0, 0)) = true := by decide +kernel
set_option maxRecDepth 1000000 in
theorem cj_b640_0 : e2_idh 2 8 h_b640_0 = true := by decide +kernel
theorem cs_b640 (hen : en_ok) (l : Launch) (hh : e2_hand_b l) : e2_smOk l 66 s_b640 := by
  refine e2_conG (H := 63) (n := 2) (C := evd_271) (S := S_b640) (I := I_b640) (fuel := 4000) hen ei_271 (e2_fa ((hh _ hm_b167).mono (by decide)) (e2_fa ((cs_b551 hen l).mono (by decide)) (e2_fa ((cs_b552 hen l).mono (by decide)) (e2_fa ((cs_b603 hen l).mono (by decide)) (e2_fa (cs_b604 hen l hh) (e2_fa ((cs_b605 hen l).mono (by decide)) e2_fz)))))) (e2_fa ein_212 (e2_fa ein_215 (e2_fa ein_216 (e2_fa ein_220 e2_fz)))) (by decide) co_b640 fun M d _ hC hcall p e R s m args below meth c Q D cA A ads r0 ha hl0 => ?_
  have L_0 : e2_gdM M p l e R s m args below meth c Q D cA A ads r0 36 al_b640_0 [] E_b640_0 h_b640_0 := by
    refine e2_indL (u := 2) (j := 5) (lo := 2147483648) (hi := 2147483668) (b := 2) (dd := 0) hl0 (by decide) rfl rfl (Or.inr ⟨rfl, rfl⟩) rfl ci_b640_0 cj_b640_0 ?_
    intro r_0 k_0 hk_0 hp_0 hs_0 hn_0
    have hl_0 : r_0.length ≤ 3 := hs_0.len rfl
    have ha_0 := ha.ext hp_0
    exact e2_fromM hen ha_0 hcall (e2_cutA_ok (e2_fa (fun al st E h hc => hn_0 al st E h hc) e2_fz)) (hC []) (X := e2x_271) ex2_271 36 ck_b640_0
  have EN_0 := e2_entL (u := 2) (j := 5) (lo := 2147483648) (hi := 2147483668) hl0 rfl rfl rfl ci_b640_0 cj_b640_0 L_0
  exact e2_from hen ha hcall (e2_cutA_ok (e2_fa (fun al st E h hc => EN_0 al st E h hc) e2_fz)) (hC []) (X := e2x_271) ex2_271 0 ck_b640_e
/-! b641 X10_answered -/
def as_b641 : List ev_V := [(2, 83, 0), (11, 2147483648, 2147483651), (11, 0, 4294967295), (11, 0, 4294967295)]
def E_b641 : e2_E := [(2147483648, 2147583648, 0, 0), (2147483648, 2147483656, 1, 0)]
def bn4376 : e2_Q7 := (bn4156, bn4281)
def bn4377 : e2_Q8 := (bn4274, bn4376)
noncomputable def f_b641 : ev_H := (bn4377 : e2_Q8)
noncomputable def q_b641_0 : ev_H := (bn4377 : e2_Q8)
noncomputable def rs_b641 : e2_Rs := [((11, 0, 4294967295), q_b641_0)]
noncomputable def s_b641 : e2_Sm := (272, as_b641, E_b641, f_b641, rs_b641)
noncomputable def S_b641 : List e2_Sm := [s_b603, s_b605]
noncomputable def I_b641 : List e2_In := [(215, 2, e2x_215), (216, 1, e2x_216)]
set_option maxRecDepth 1000000 in
theorem co_b641 : e2_okSB E_b641.length as_b641 f_b641 rs_b641 = true := by decide +kernel
def al_b641_0 : List ev_V := [(2, 83, 0), (11, 2147483648, 2147483651), (11, 0, 4294967295), (11, 0, 4294967295), (11, 0, 4294967295), (1, 2, 4294967296), (9, 0, 0)]
def E_b641_0 : e2_E := [(2147483648, 2147583648, 0, 0), (2147483648, 2147483656, 1, 0), (2147483648, 2147483668, 2, 0)]
noncomputable def h_b641_0 : ev_H := (bn4377 : e2_Q8)
noncomputable def cl_b641_e : List (Nat × e2_S) := [(11, e2_cutL (al_b641_0.set 5 (11, 2147483648, 2147483668)) 2 (E_b641_0.take 2) h_b641_0)]
set_option maxRecDepth 1000000 in
theorem ck_b641_e : e2_run (e2_cal S_b641 I_b641 4000 1) (e2_fin rs_b641) e2x_272 (e2_bpL cl_b641_e) (e2_cutA cl_b641_e) 4000 (e2_seek e2x_272 0) (e2_al 7 as_b641) [] E_b641 f_b641 = true := by decide +kernel
noncomputable def cl_b641_0 : List (Nat × e2_S) := [(11, e2_cutL (al_b641_0.set 5 (13, 10, 2147483668)) 2 (E_b641_0.take 2) h_b641_0)]
set_option maxRecDepth 1000000 in
theorem ck_b641_0 : e2_runM (e2_cal S_b641 I_b641 4000 1) (e2_fin rs_b641) e2x_272 (e2_bpL cl_b641_0) (e2_cutA cl_b641_0) 4000 (e2_seek e2x_272 11) al_b641_0 [] E_b641_0 h_b641_0 = true := by decide +kernel
set_option maxRecDepth 1000000 in
theorem ci_b641_0 : e2_idl 2 (al_b641_0.set 5 (9, 0, 0)) = true := by decide +kernel
set_option maxRecDepth 1000000 in
theorem cj_b641_0 : e2_idh 2 8 h_b641_0 = true := by decide +kernel
theorem cs_b641 (hen : en_ok) (l : Launch) : e2_smOk l 7 s_b641 := by
  refine e2_conG (H := 5) (n := 1) (C := evd_272) (S := S_b641) (I := I_b641) (fuel := 4000) hen ei_272 (e2_fa (cs_b603 hen l) (e2_fa ((cs_b605 hen l).mono (by decide)) e2_fz)) (e2_fa ein_215 (e2_fa ein_216 e2_fz)) (by decide) co_b641 fun M d _ hC hcall p e R s m args below meth c Q D cA A ads r0 ha hl0 => ?_
  have L_0 : e2_gdM M p l e R s m args below meth c Q D cA A ads r0 11 al_b641_0 [] E_b641_0 h_b641_0 := by
    refine e2_indL (u := 2) (j := 5) (lo := 2147483648) (hi := 2147483668) (b := 2) (dd := 0) hl0 (by decide) rfl rfl (Or.inr ⟨rfl, rfl⟩) rfl ci_b641_0 cj_b641_0 ?_
    intro r_0 k_0 hk_0 hp_0 hs_0 hn_0
    have hl_0 : r_0.length ≤ 3 := hs_0.len rfl
    have ha_0 := ha.ext hp_0
    exact e2_fromM hen ha_0 hcall (e2_cutA_ok (e2_fa (fun al st E h hc => hn_0 al st E h hc) e2_fz)) (hC []) (X := e2x_272) ex2_272 11 ck_b641_0
  have EN_0 := e2_entL (u := 2) (j := 5) (lo := 2147483648) (hi := 2147483668) hl0 rfl rfl rfl ci_b641_0 cj_b641_0 L_0
  exact e2_from hen ha hcall (e2_cutA_ok (e2_fa (fun al st E h hc => EN_0 al st E h hc) e2_fz)) (hC []) (X := e2x_272) ex2_272 0 ck_b641_e
/-! b642 X10_isOpenSet -/
def as_b642 : List ev_V := [(2, 83, 0), (11, 0, 4294967295)]
def E_b642 : e2_E := [(2147483648, 2147583648, 0, 0), (2147483648, 2147483656, 1, 0)]
noncomputable def f_b642 : ev_H := (bn3564 : e2_Q8)
noncomputable def q_b642_0 : ev_H := (bn3564 : e2_Q8)
noncomputable def rs_b642 : e2_Rs := [((11, 2147483648, 2147483649), q_b642_0)]
noncomputable def s_b642 : e2_Sm := (273, as_b642, E_b642, f_b642, rs_b642)
noncomputable def S_b642 : List e2_Sm := [s_b552]
noncomputable def I_b642 : List e2_In := []
set_option maxRecDepth 1000000 in
theorem ck_b642 : e2_run (e2_cal S_b642 I_b642 4000 0) (e2_fin rs_b642) e2x_273 (fun _ => false) (fun _ _ _ _ _ => false) 4000 (e2_seek e2x_273 0) (e2_al 2 as_b642) [] E_b642 f_b642 = true := by decide +kernel
set_option maxRecDepth 1000000 in
theorem co_b642 : e2_okSB E_b642.length as_b642 f_b642 rs_b642 = true := by decide +kernel
theorem cs_b642 (hen : en_ok) (l : Launch) : e2_smOk l 6 s_b642 := e2_con0 (H := 5) (n := 0) (C := evd_273) (S := S_b642) (I := I_b642) (fuel := 4000) [] hen ei_273 (e2_fa (cs_b552 hen l) e2_fz) e2_fz (by decide) co_b642 ex2_273 ck_b642
/-! b643 X10_duel -/
def as_b643 : List ev_V := [(2, 83, 0), (11, 0, 4294967295), (11, 0, 4294967295), (11, 0, 4294967295), (11, 0, 4294967295)]
def E_b643 : e2_E := [(2147483648, 2147583648, 0, 0), (2147483648, 2147483656, 1, 0)]
noncomputable def f_b643 : ev_H := (bn4258 : e2_Q8)
noncomputable def q_b643_0 : ev_H := (bn4258 : e2_Q8)
noncomputable def rs_b643 : e2_Rs := [((11, 0, 4294967295), q_b643_0)]
noncomputable def s_b643 : e2_Sm := (274, as_b643, E_b643, f_b643, rs_b643)
noncomputable def S_b643 : List e2_Sm := [s_b551, s_b553, s_b641, s_b642]
noncomputable def I_b643 : List e2_In := [(212, 3, e2x_212), (215, 2, e2x_215), (216, 1, e2x_216), (220, 2, e2x_220)]
set_option maxRecDepth 1000000 in
theorem co_b643 : e2_okSB E_b643.length as_b643 f_b643 rs_b643 = true := by decide +kernel
def al_b643_0 : List ev_V := [(2, 83, 0), (11, 2147483648, 2147483651), (11, 0, 4294967295), (11, 0, 4294967295), (11, 2147483648, 2147483650), (11, 2147483647, 2147483667), (11, 0, 4294967295), (11, 0, 4294967295), (1, 2, 4294967296), (9, 0, 0)]
def E_b643_0 : e2_E := [(2147483648, 2147583648, 0, 0), (2147483648, 2147483656, 1, 0), (2147483648, 2147483668, 2, 0)]
noncomputable def h_b643_0 : ev_H := (bn4258 : e2_Q8)
noncomputable def cl_b643_e : List (Nat × e2_S) := [(60, e2_cutL (al_b643_0.set 8 (11, 2147483648, 2147483668)) 2 (E_b643_0.take 2) h_b643_0)]
set_option maxRecDepth 1000000 in
theorem ck_b643_e : e2_run (e2_cal S_b643 I_b643 4000 2) (e2_fin rs_b643) e2x_274 (e2_bpL cl_b643_e) (e2_cutA cl_b643_e) 4000 (e2_seek e2x_274 0) (e2_al 10 as_b643) [] E_b643 f_b643 = true := by decide +kernel
noncomputable def cl_b643_0 : List (Nat × e2_S) := [(60, e2_cutL (al_b643_0.set 8 (13, 10, 2147483668)) 2 (E_b643_0.take 2) h_b643_0)]
set_option maxRecDepth 1000000 in
theorem ck_b643_0 : e2_runM (e2_cal S_b643 I_b643 4000 2) (e2_fin rs_b643) e2x_274 (e2_bpL cl_b643_0) (e2_cutA cl_b643_0) 4000 (e2_seek e2x_274 60) al_b643_0 [] E_b643_0 h_b643_0 = true := by decide +kernel
set_option maxRecDepth 1000000 in
theorem ci_b643_0 : e2_idl 2 (al_b643_0.set 8 (9, 0, 0)) = true := by decide +kernel
set_option maxRecDepth 1000000 in
theorem cj_b643_0 : e2_idh 2 8 h_b643_0 = true := by decide +kernel
theorem cs_b643 (hen : en_ok) (l : Launch) (hh : e2_hand_b l) : e2_smOk l 65 s_b643 := by
  refine e2_conG (H := 62) (n := 2) (C := evd_274) (S := S_b643) (I := I_b643) (fuel := 4000) hen ei_274 (e2_fa ((cs_b551 hen l).mono (by decide)) (e2_fa (cs_b553 hen l hh) (e2_fa ((cs_b641 hen l).mono (by decide)) (e2_fa ((cs_b642 hen l).mono (by decide)) e2_fz)))) (e2_fa ein_212 (e2_fa ein_215 (e2_fa ein_216 (e2_fa ein_220 e2_fz)))) (by decide) co_b643 fun M d _ hC hcall p e R s m args below meth c Q D cA A ads r0 ha hl0 => ?_
  have L_0 : e2_gdM M p l e R s m args below meth c Q D cA A ads r0 60 al_b643_0 [] E_b643_0 h_b643_0 := by
    refine e2_indL (u := 2) (j := 8) (lo := 2147483648) (hi := 2147483668) (b := 2) (dd := 0) hl0 (by decide) rfl rfl (Or.inr ⟨rfl, rfl⟩) rfl ci_b643_0 cj_b643_0 ?_
    intro r_0 k_0 hk_0 hp_0 hs_0 hn_0
    have hl_0 : r_0.length ≤ 3 := hs_0.len rfl
    have ha_0 := ha.ext hp_0
    exact e2_fromM hen ha_0 hcall (e2_cutA_ok (e2_fa (fun al st E h hc => hn_0 al st E h hc) e2_fz)) (hC []) (X := e2x_274) ex2_274 60 ck_b643_0
  have EN_0 := e2_entL (u := 2) (j := 8) (lo := 2147483648) (hi := 2147483668) hl0 rfl rfl rfl ci_b643_0 cj_b643_0 L_0
  exact e2_from hen ha hcall (e2_cutA_ok (e2_fa (fun al st E h hc => EN_0 al st E h hc) e2_fz)) (hC []) (X := e2x_274) ex2_274 0 ck_b643_e
/-! b644 X10_heard -/
def as_b644 : List ev_V := [(2, 83, 0), (11, 0, 4294967295), (11, 0, 4294967295), (11, 0, 4294967295), (11, 2147483648, 2147483649)]
def E_b644 : e2_E := [(2147483648, 2147583648, 0, 0), (2147483648, 2147483656, 1, 0)]
def bc304 : ev_C := (54, [(0, 30, 0), (11, 0, 4294967295)])
def bn4378 : e2_Q1 := (bc0, bc304)
def bn4379 : e2_Q2 := (bn4378, bn1)
def bn4380 : e2_Q3 := (bn4379, bn5)
def bn4381 : e2_Q4 := (bn4380, bn13)
def bn4382 : e2_Q5 := (bn4381, bn3579)
def bn4383 : e2_Q6 := (bn4382, bn338)
def bn4384 : e2_Q1 := (bc304, bc3)
def bn4385 : e2_Q2 := (bn119, bn4384)
def bn4386 : e2_Q3 := (bn118, bn4385)
def bn4387 : e2_Q4 := (bn342, bn4386)
def bn4388 : e2_Q5 := (bn108, bn4387)
def bn4389 : e2_Q6 := (bn93, bn4388)
def bn4390 : e2_Q7 := (bn4383, bn4389)
def bn4391 : e2_Q1 := (bc68, bc304)
def bn4392 : e2_Q2 := (bn4391, bn128)
def bn4393 : e2_Q3 := (bn4392, bn132)
def bn4394 : e2_Q4 := (bn4393, bn140)
def bn4395 : e2_Q5 := (bn4394, bn156)
def bn4396 : e2_Q6 := (bn4395, bn735)
def bn4397 : e2_Q2 := (bn245, bn4384)
def bn4398 : e2_Q3 := (bn244, bn4397)
def bn4399 : e2_Q4 := (bn241, bn4398)
def bn4400 : e2_Q5 := (bn234, bn4399)
def bn4401 : e2_Q6 := (bn3557, bn4400)
def bn4402 : e2_Q7 := (bn4396, bn4401)
def bn4403 : e2_Q8 := (bn4390, bn4402)
noncomputable def f_b644 : ev_H := (bn4403 : e2_Q8)
noncomputable def q_b644_0 : ev_H := (bn4403 : e2_Q8)
noncomputable def rs_b644 : e2_Rs := [((11, 2147483647, 2147483677), q_b644_0)]
noncomputable def s_b644 : e2_Sm := (278, as_b644, E_b644, f_b644, rs_b644)
noncomputable def S_b644 : List e2_Sm := []
noncomputable def I_b644 : List e2_In := [(212, 3, e2x_212), (217, 1, e2x_217), (275, 1, e2x_275), (276, 2, e2x_276), (277, 3, e2x_277)]
set_option maxRecDepth 1000000 in
theorem ck_b644 : e2_run (e2_cal S_b644 I_b644 4000 3) (e2_fin rs_b644) e2x_278 (fun _ => false) (fun _ _ _ _ _ => false) 4000 (e2_seek e2x_278 0) (e2_al 5 as_b644) [] E_b644 f_b644 = true := by decide +kernel
set_option maxRecDepth 1000000 in
theorem co_b644 : e2_okSB E_b644.length as_b644 f_b644 rs_b644 = true := by decide +kernel
theorem cs_b644 (hen : en_ok) (l : Launch) : e2_smOk l 4 s_b644 := e2_con0 (H := 0) (n := 3) (C := evd_278) (S := S_b644) (I := I_b644) (fuel := 4000) [] hen ei_278 e2_fz (e2_fa ein_212 (e2_fa ein_217 (e2_fa ein_275 (e2_fa ein_276 (e2_fa ein_277 e2_fz))))) (by decide) co_b644 ex2_278 ck_b644
/-! b645 X10_doesFit -/
def as_b645 : List ev_V := [(2, 83, 0), (11, 2147483648, 4294967295), (11, 0, 4294967295)]
def E_b645 : e2_E := [(2147483648, 2147583648, 0, 0), (2147483648, 2147483656, 1, 0)]
def bn4404 : e2_Q5 := (bn4381, bn29)
def bn4405 : e2_Q6 := (bn4404, bn338)
def bn4406 : e2_Q7 := (bn4405, bn4389)
def bc305 : ev_C := (10, [(0, 0, 0), (2, 88, 0), (2, 115, 0), (2, 114, 0), (2, 86, 0), (2, 112, 0), (11, 2147483648, 2147483688), (2, 118, 0), (2, 120, 0), (2, 131, 0), (2, 91, 0), (11, 2147483648, 2147483668), (2, 123, 0), (11, 2147483648, 2147483649), (11, 2147483648, 2147485248), (2, 87, 0), (2, 84, 0), (2, 122, 0), (2, 100, 0), (2, 132, 0), (11, 2147483648, 2147483668), (11, 2147483648, 2147485248), (1, 0, 4294967296), (11, 2147483648, 2147483653), (11, 2147483648, 2147485248), (2, 93, 0), (2, 104, 0), (11, 2147483648, 2147483678), (2, 89, 0), (2, 92, 0), (2, 119, 0), (2, 90, 0), (2, 94, 0), (2, 103, 0), (11, 2147483648, 2147483688), (11, 0, 4294967295), (11, 0, 4294967295), (11, 2147483648, 2147485249), (11, 2147483648, 2147483653), (11, 2147483648, 2147483668), (2, 85, 0), (11, 0, 4294967295), (5, 0, 0), (2, 95, 0), (2, 96, 0), (2, 97, 0), (2, 98, 0), (2, 99, 0), (2, 101, 0), (2, 102, 0), (2, 105, 0), (2, 106, 0), (2, 107, 0), (2, 108, 0), (2, 109, 0), (2, 110, 0), (2, 111, 0), (11, 2147483648, 2147484768), (11, 2147482048, 2147483655), (11, 2147483648, 2147483738), (11, 2147483648, 2147483678), (11, 0, 4294967295), (11, 0, 4294967295), (11, 0, 4294967295), (11, 0, 4294967295), (11, 0, 4294967295), (2, 113, 0), (2, 116, 0), (2, 117, 0), (2, 121, 0), (11, 0, 4294967295), (11, 0, 4294967295), (2, 124, 0), (2, 125, 0), (11, 0, 4294967295), (2, 126, 0), (2, 127, 0), (2, 128, 0), (2, 129, 0), (2, 130, 0)])
def bn4407 : e2_Q1 := (bc305, bc3)
def bn4408 : e2_Q2 := (bn196, bn4407)
def bn4409 : e2_Q3 := (bn4408, bn201)
def bn4410 : e2_Q4 := (bn195, bn4409)
def bn4411 : e2_Q5 := (bn4410, bn365)
def bn4412 : e2_Q6 := (bn4411, bn4400)
def bn4413 : e2_Q7 := (bn4396, bn4412)
def bn4414 : e2_Q8 := (bn4406, bn4413)
noncomputable def f_b645 : ev_H := (bn4414 : e2_Q8)
noncomputable def q_b645_0 : ev_H := (bn4414 : e2_Q8)
noncomputable def rs_b645 : e2_Rs := [((11, 2147483648, 2147483649), q_b645_0)]
noncomputable def s_b645 : e2_Sm := (281, as_b645, E_b645, f_b645, rs_b645)
noncomputable def S_b645 : List e2_Sm := []
noncomputable def I_b645 : List e2_In := []
set_option maxRecDepth 1000000 in
theorem co_b645 : e2_okSB E_b645.length as_b645 f_b645 rs_b645 = true := by decide +kernel
def al_b645_0 : List ev_V := [(2, 83, 0), (11, 2147483648, 4294967295), (11, 0, 4294967295), (1, 2, 4294967296), (9, 0, 0)]
def E_b645_0 : e2_E := [(2147483648, 2147583648, 0, 0), (2147483648, 2147483656, 1, 0), (2147483648, 2147483678, 2, 0)]
noncomputable def h_b645_0 : ev_H := (bn4414 : e2_Q8)
noncomputable def cl_b645_e : List (Nat × e2_S) := [(2, e2_cutL (al_b645_0.set 3 (11, 2147483648, 2147483678)) 2 (E_b645_0.take 2) h_b645_0)]
set_option maxRecDepth 1000000 in
theorem ck_b645_e : e2_run (e2_cal S_b645 I_b645 4000 0) (e2_fin rs_b645) e2x_281 (e2_bpL cl_b645_e) (e2_cutA cl_b645_e) 4000 (e2_seek e2x_281 0) (e2_al 5 as_b645) [] E_b645 f_b645 = true := by decide +kernel
noncomputable def cl_b645_0 : List (Nat × e2_S) := [(2, e2_cutL (al_b645_0.set 3 (13, 10, 2147483678)) 2 (E_b645_0.take 2) h_b645_0)]
set_option maxRecDepth 1000000 in
theorem ck_b645_0 : e2_runM (e2_cal S_b645 I_b645 4000 0) (e2_fin rs_b645) e2x_281 (e2_bpL cl_b645_0) (e2_cutA cl_b645_0) 4000 (e2_seek e2x_281 2) al_b645_0 [] E_b645_0 h_b645_0 = true := by decide +kernel
set_option maxRecDepth 1000000 in
theorem ci_b645_0 : e2_idl 2 (al_b645_0.set 3 (9, 0, 0)) = true := by decide +kernel
set_option maxRecDepth 1000000 in
theorem cj_b645_0 : e2_idh 2 8 h_b645_0 = true := by decide +kernel
theorem cs_b645 (hen : en_ok) (l : Launch) : e2_smOk l 1 s_b645 := by
  refine e2_conG (H := 0) (n := 0) (C := evd_281) (S := S_b645) (I := I_b645) (fuel := 4000) hen ei_281 e2_fz e2_fz (by decide) co_b645 fun M d _ hC hcall p e R s m args below meth c Q D cA A ads r0 ha hl0 => ?_
  have L_0 : e2_gdM M p l e R s m args below meth c Q D cA A ads r0 2 al_b645_0 [] E_b645_0 h_b645_0 := by
    refine e2_indL (u := 2) (j := 3) (lo := 2147483648) (hi := 2147483678) (b := 2) (dd := 0) hl0 (by decide) rfl rfl (Or.inr ⟨rfl, rfl⟩) rfl ci_b645_0 cj_b645_0 ?_
    intro r_0 k_0 hk_0 hp_0 hs_0 hn_0
    have hl_0 : r_0.length ≤ 3 := hs_0.len rfl
    have ha_0 := ha.ext hp_0
    exact e2_fromM hen ha_0 hcall (e2_cutA_ok (e2_fa (fun al st E h hc => hn_0 al st E h hc) e2_fz)) (hC []) (X := e2x_281) ex2_281 2 ck_b645_0
  have EN_0 := e2_entL (u := 2) (j := 3) (lo := 2147483648) (hi := 2147483678) hl0 rfl rfl rfl ci_b645_0 cj_b645_0 L_0
  exact e2_from hen ha hcall (e2_cutA_ok (e2_fa (fun al st E h hc => EN_0 al st E h hc) e2_fz)) (hC []) (X := e2x_281) ex2_281 0 ck_b645_e
/-! b646 X10_layFit -/
def as_b646 : List ev_V := [(2, 83, 0), (11, 0, 4294967295)]
def E_b646 : e2_E := [(2147483648, 2147583648, 0, 0), (2147483648, 2147483656, 1, 0)]
def bc306 : ev_C := (54, [(0, 16, 0), (11, 0, 4294967295)])
def bn4415 : e2_Q1 := (bc35, bc306)
def bn4416 : e2_Q2 := (bn4415, bn64)
def bn4417 : e2_Q3 := (bn4416, bn68)
def bn4418 : e2_Q4 := (bn4417, bn76)
def bn4419 : e2_Q5 := (bn4418, bn92)
def bn4420 : e2_Q6 := (bn4419, bn4388)
def bn4421 : e2_Q7 := (bn4383, bn4420)
def bn4422 : e2_Q8 := (bn4421, bn4402)
noncomputable def f_b646 : ev_H := (bn4422 : e2_Q8)
def bn4423 : e2_Q8 := (bn4421, bn4413)
noncomputable def q_b646_0 : ev_H := (bn4423 : e2_Q8)
noncomputable def rs_b646 : e2_Rs := [((9, 0, 0), q_b646_0)]
noncomputable def s_b646 : e2_Sm := (282, as_b646, E_b646, f_b646, rs_b646)
noncomputable def S_b646 : List e2_Sm := [s_b645]
noncomputable def I_b646 : List e2_In := [(217, 1, e2x_217), (275, 1, e2x_275)]
set_option maxRecDepth 1000000 in
theorem co_b646 : e2_okSB E_b646.length as_b646 f_b646 rs_b646 = true := by decide +kernel
def al_b646_0 : List ev_V := [(2, 83, 0), (11, 0, 4294967295), (11, 2147483648, 2147483664), (1, 2, 4294967296), (9, 0, 0)]
def E_b646_0 : e2_E := [(2147483648, 2147583648, 0, 0), (2147483648, 2147483656, 1, 0), (2147483648, 2147483664, 2, 0)]
noncomputable def h_b646_0 : ev_H := (bn4422 : e2_Q8)
def al_b646_1 : List ev_V := [(2, 83, 0), (11, 0, 4294967295), (11, 2147483648, 2147483664), (1, 2, 4294967296), (9, 0, 0)]
def E_b646_1 : e2_E := [(2147483648, 2147583648, 0, 0), (2147483648, 2147483656, 1, 0), (2147483648, 4294967295, 2, 0)]
noncomputable def h_b646_1 : ev_H := (bn4423 : e2_Q8)
def al_b646_2 : List ev_V := [(2, 83, 0), (11, 0, 4294967295), (11, 2147483648, 2147483664), (1, 2, 4294967296), (1, 3, 4294967296)]
def E_b646_2 : e2_E := [(2147483648, 2147583648, 0, 0), (2147483648, 2147483656, 1, 0), (2147483648, 4294967294, 2, 0), (2147483648, 2147483664, 3, 0)]
noncomputable def h_b646_2 : ev_H := (bn4423 : e2_Q8)
noncomputable def cl_b646_e : List (Nat × e2_S) := [(17, e2_cutL (al_b646_0.set 3 (11, 2147483648, 2147483664)) 2 (E_b646_0.take 2) h_b646_0)]
set_option maxRecDepth 1000000 in
theorem ck_b646_e : e2_run (e2_cal S_b646 I_b646 4000 2) (e2_fin rs_b646) e2x_282 (e2_bpL cl_b646_e) (e2_cutA cl_b646_e) 4000 (e2_seek e2x_282 0) (e2_al 5 as_b646) [] E_b646 f_b646 = true := by decide +kernel
noncomputable def cl_b646_0 : List (Nat × e2_S) := [(17, e2_cutL (al_b646_0.set 3 (13, 10, 2147483664)) 2 (E_b646_0.take 2) h_b646_0),
  (37, e2_cutL (al_b646_1.set 3 (11, 2147483648, 4294967295)) 2 (E_b646_1.take 2) h_b646_1)]
set_option maxRecDepth 1000000 in
theorem ck_b646_0 : e2_runM (e2_cal S_b646 I_b646 4000 2) (e2_fin rs_b646) e2x_282 (e2_bpL cl_b646_0) (e2_cutA cl_b646_0) 4000 (e2_seek e2x_282 17) al_b646_0 [] E_b646_0 h_b646_0 = true := by decide +kernel
set_option maxRecDepth 1000000 in
theorem ci_b646_0 : e2_idl 2 (al_b646_0.set 3 (9, 0, 0)) = true := by decide +kernel
set_option maxRecDepth 1000000 in
theorem cj_b646_0 : e2_idh 2 8 h_b646_0 = true := by decide +kernel
noncomputable def cl_b646_1 : List (Nat × e2_S) := [(37, e2_cutL (al_b646_1.set 3 (13, 10, 4294967295)) 2 (E_b646_1.take 2) h_b646_1),
  (69, e2_cutL (al_b646_2.set 4 (11, 2147483648, 2147483664)) 3 (E_b646_2.take 3) h_b646_2)]
set_option maxRecDepth 1000000 in
theorem ck_b646_1 : e2_runM (e2_cal S_b646 I_b646 4000 2) (e2_fin rs_b646) e2x_282 (e2_bpL cl_b646_1) (e2_cutA cl_b646_1) 4000 (e2_seek e2x_282 37) al_b646_1 [] E_b646_1 h_b646_1 = true := by decide +kernel
set_option maxRecDepth 1000000 in
theorem ci_b646_1 : e2_idl 2 (al_b646_1.set 3 (9, 0, 0)) = true := by decide +kernel
set_option maxRecDepth 1000000 in
theorem cj_b646_1 : e2_idh 2 8 h_b646_1 = true := by decide +kernel
noncomputable def cl_b646_2 : List (Nat × e2_S) := [(37, e2_cutL (al_b646_1.set 3 (13, 10, 4294967295)) 2 (E_b646_1.take 2) h_b646_1),
  (69, e2_cutL (al_b646_2.set 4 (13, 11, 2147483664)) 3 (E_b646_2.take 3) h_b646_2)]
set_option maxRecDepth 1000000 in
theorem ck_b646_2 : e2_runM (e2_cal S_b646 I_b646 4000 2) (e2_fin rs_b646) e2x_282 (e2_bpL cl_b646_2) (e2_cutA cl_b646_2) 4000 (e2_seek e2x_282 69) al_b646_2 [] E_b646_2 h_b646_2 = true := by decide +kernel
set_option maxRecDepth 1000000 in
theorem ci_b646_2 : e2_idl 3 (al_b646_2.set 4 (9, 0, 0)) = true := by decide +kernel
set_option maxRecDepth 1000000 in
theorem cj_b646_2 : e2_idh 3 8 h_b646_2 = true := by decide +kernel
theorem cs_b646 (hen : en_ok) (l : Launch) : e2_smOk l 4 s_b646 := by
  refine e2_conG (H := 1) (n := 2) (C := evd_282) (S := S_b646) (I := I_b646) (fuel := 4000) hen ei_282 (e2_fa (cs_b645 hen l) e2_fz) (e2_fa ein_217 (e2_fa ein_275 e2_fz)) (by decide) co_b646 fun M d _ hC hcall p e R s m args below meth c Q D cA A ads r0 ha hl0 => ?_
  have L_1 : e2_gdM M p l e R s m args below meth c Q D cA A ads r0 37 al_b646_1 [] E_b646_1 h_b646_1 := by
    refine e2_indL (u := 2) (j := 3) (lo := 2147483648) (hi := 4294967295) (b := 2) (dd := 0) hl0 (by decide) rfl rfl (Or.inr ⟨rfl, rfl⟩) rfl ci_b646_1 cj_b646_1 ?_
    intro r_1 k_1 hk_1 hp_1 hs_1 hn_1
    have hl_1 : r_1.length ≤ 3 := hs_1.len rfl
    have ha_1 := ha.ext hp_1
    have L_2 : e2_gdM M p l e R s m args below meth c Q D cA A ads r_1 69 al_b646_2 [] E_b646_2 h_b646_2 := by
      refine e2_indL (u := 3) (j := 4) (lo := 2147483648) (hi := 2147483664) (b := 3) (dd := 0) hl_1 (by decide) rfl rfl (Or.inr ⟨rfl, rfl⟩) rfl ci_b646_2 cj_b646_2 ?_
      intro r_2 k_2 hk_2 hp_2 hs_2 hn_2
      have hl_2 : r_2.length ≤ 4 := hs_2.len rfl
      have ha_2 := ha_1.ext hp_2
      exact e2_fromM hen ha_2 hcall (e2_cutA_ok (e2_fa (fun al st E h hc => (hn_1 al st E h hc).ext hp_2) (e2_fa (fun al st E h hc => hn_2 al st E h hc) e2_fz))) (hC []) (X := e2x_282) ex2_282 69 ck_b646_2
    have EN_2 := e2_entL (u := 3) (j := 4) (lo := 2147483648) (hi := 2147483664) hl_1 rfl rfl rfl ci_b646_2 cj_b646_2 L_2
    exact e2_fromM hen ha_1 hcall (e2_cutA_ok (e2_fa (fun al st E h hc => hn_1 al st E h hc) (e2_fa (fun al st E h hc => EN_2 al st E h hc) e2_fz))) (hC []) (X := e2x_282) ex2_282 37 ck_b646_1
  have EN_1 := e2_entL (u := 2) (j := 3) (lo := 2147483648) (hi := 4294967295) hl0 rfl rfl rfl ci_b646_1 cj_b646_1 L_1
  have L_0 : e2_gdM M p l e R s m args below meth c Q D cA A ads r0 17 al_b646_0 [] E_b646_0 h_b646_0 := by
    refine e2_indL (u := 2) (j := 3) (lo := 2147483648) (hi := 2147483664) (b := 2) (dd := 0) hl0 (by decide) rfl rfl (Or.inr ⟨rfl, rfl⟩) rfl ci_b646_0 cj_b646_0 ?_
    intro r_0 k_0 hk_0 hp_0 hs_0 hn_0
    have hl_0 : r_0.length ≤ 3 := hs_0.len rfl
    have ha_0 := ha.ext hp_0
    exact e2_fromM hen ha_0 hcall (e2_cutA_ok (e2_fa (fun al st E h hc => hn_0 al st E h hc) (e2_fa (fun al st E h hc => (EN_1 al st E h hc).ext hp_0) e2_fz))) (hC []) (X := e2x_282) ex2_282 17 ck_b646_0
  have EN_0 := e2_entL (u := 2) (j := 3) (lo := 2147483648) (hi := 2147483664) hl0 rfl rfl rfl ci_b646_0 cj_b646_0 L_0
  exact e2_from hen ha hcall (e2_cutA_ok (e2_fa (fun al st E h hc => EN_0 al st E h hc) e2_fz)) (hC []) (X := e2x_282) ex2_282 0 ck_b646_e
/-! b647 X10_fit -/
def as_b647 : List ev_V := [(2, 83, 0), (11, 0, 4294967295)]
def E_b647 : e2_E := [(2147483648, 2147583648, 0, 0), (2147483648, 2147483656, 1, 0)]
noncomputable def f_b647 : ev_H := (bn4422 : e2_Q8)
noncomputable def q_b647_0 : ev_H := (bn4423 : e2_Q8)
noncomputable def rs_b647 : e2_Rs := [((11, 0, 4294967295), q_b647_0)]
noncomputable def s_b647 : e2_Sm := (283, as_b647, E_b647, f_b647, rs_b647)
noncomputable def S_b647 : List e2_Sm := [s_b646]
noncomputable def I_b647 : List e2_In := []
set_option maxRecDepth 1000000 in
theorem ck_b647 : e2_run (e2_cal S_b647 I_b647 4000 0) (e2_fin rs_b647) e2x_283 (fun _ => false) (fun _ _ _ _ _ => false) 4000 (e2_seek e2x_283 0) (e2_al 2 as_b647) [] E_b647 f_b647 = true := by decide +kernel
set_option maxRecDepth 1000000 in
theorem co_b647 : e2_okSB E_b647.length as_b647 f_b647 rs_b647 = true := by decide +kernel
theorem cs_b647 (hen : en_ok) (l : Launch) : e2_smOk l 5 s_b647 := e2_con0 (H := 4) (n := 0) (C := evd_283) (S := S_b647) (I := I_b647) (fuel := 4000) [] hen ei_283 (e2_fa (cs_b646 hen l) e2_fz) e2_fz (by decide) co_b647 ex2_283 ck_b647
/-! b648 X10_sure -/
def as_b648 : List ev_V := [(2, 83, 0), (11, 0, 4294967295), (11, 0, 4294967295), (11, 0, 4294967295)]
def E_b648 : e2_E := [(2147483648, 2147583648, 0, 0), (2147483648, 2147483656, 1, 0)]
noncomputable def f_b648 : ev_H := (bn4422 : e2_Q8)
noncomputable def q_b648_0 : ev_H := (bn4423 : e2_Q8)
noncomputable def rs_b648 : e2_Rs := [((11, 2147483646, 2147483649), q_b648_0)]
noncomputable def s_b648 : e2_Sm := (284, as_b648, E_b648, f_b648, rs_b648)
noncomputable def S_b648 : List e2_Sm := [s_b646]
noncomputable def I_b648 : List e2_In := [(212, 3, e2x_212), (217, 1, e2x_217), (275, 1, e2x_275), (276, 2, e2x_276)]
set_option maxRecDepth 1000000 in
theorem ck_b648 : e2_run (e2_cal S_b648 I_b648 4000 3) (e2_fin rs_b648) e2x_284 (fun _ => false) (fun _ _ _ _ _ => false) 4000 (e2_seek e2x_284 0) (e2_al 5 as_b648) [] E_b648 f_b648 = true := by decide +kernel
set_option maxRecDepth 1000000 in
theorem co_b648 : e2_okSB E_b648.length as_b648 f_b648 rs_b648 = true := by decide +kernel
theorem cs_b648 (hen : en_ok) (l : Launch) : e2_smOk l 8 s_b648 := e2_con0 (H := 4) (n := 3) (C := evd_284) (S := S_b648) (I := I_b648) (fuel := 4000) [] hen ei_284 (e2_fa (cs_b646 hen l) e2_fz) (e2_fa ein_212 (e2_fa ein_217 (e2_fa ein_275 (e2_fa ein_276 e2_fz)))) (by decide) co_b648 ex2_284 ck_b648
/-! b649 X10_ask -/
def as_b649 : List ev_V := [(2, 83, 0), (11, 0, 4294967295), (11, 0, 4294967295)]
def E_b649 : e2_E := [(2147483648, 2147583648, 0, 0), (2147483648, 2147483656, 1, 0)]
noncomputable def f_b649 : ev_H := (bn4422 : e2_Q8)
noncomputable def q_b649_0 : ev_H := (bn4423 : e2_Q8)
noncomputable def rs_b649 : e2_Rs := [((11, 0, 4294967295), q_b649_0)]
noncomputable def s_b649 : e2_Sm := (285, as_b649, E_b649, f_b649, rs_b649)
noncomputable def S_b649 : List e2_Sm := [s_b646]
noncomputable def I_b649 : List e2_In := [(212, 3, e2x_212), (217, 1, e2x_217), (275, 1, e2x_275)]
set_option maxRecDepth 1000000 in
theorem co_b649 : e2_okSB E_b649.length as_b649 f_b649 rs_b649 = true := by decide +kernel
def al_b649_0 : List ev_V := [(2, 83, 0), (11, 2147483648, 2147483649), (11, 0, 4294967295), (11, 2147483648, 2147483663), (11, 0, 4294967295), (1, 2, 4294967296), (9, 0, 0)]
def E_b649_0 : e2_E := [(2147483648, 2147583648, 0, 0), (2147483649, 2147483656, 1, 0), (2147483648, 2147483664, 2, 0)]
noncomputable def h_b649_0 : ev_H := (bn4423 : e2_Q8)
noncomputable def cl_b649_e : List (Nat × e2_S) := [(45, e2_cutL (al_b649_0.set 5 (11, 2147483648, 2147483664)) 2 (E_b649_0.take 2) h_b649_0)]
set_option maxRecDepth 1000000 in
theorem ck_b649_e : e2_run (e2_cal S_b649 I_b649 4000 2) (e2_fin rs_b649) e2x_285 (e2_bpL cl_b649_e) (e2_cutA cl_b649_e) 4000 (e2_seek e2x_285 0) (e2_al 7 as_b649) [] E_b649 f_b649 = true := by decide +kernel
noncomputable def cl_b649_0 : List (Nat × e2_S) := [(45, e2_cutL (al_b649_0.set 5 (13, 10, 2147483664)) 2 (E_b649_0.take 2) h_b649_0)]
set_option maxRecDepth 1000000 in
theorem ck_b649_0 : e2_runM (e2_cal S_b649 I_b649 4000 2) (e2_fin rs_b649) e2x_285 (e2_bpL cl_b649_0) (e2_cutA cl_b649_0) 4000 (e2_seek e2x_285 45) al_b649_0 [] E_b649_0 h_b649_0 = true := by decide +kernel
set_option maxRecDepth 1000000 in
theorem ci_b649_0 : e2_idl 2 (al_b649_0.set 5 (9, 0, 0)) = true := by decide +kernel
set_option maxRecDepth 1000000 in
theorem cj_b649_0 : e2_idh 2 8 h_b649_0 = true := by decide +kernel
theorem cs_b649 (hen : en_ok) (l : Launch) : e2_smOk l 7 s_b649 := by
  refine e2_conG (H := 4) (n := 2) (C := evd_285) (S := S_b649) (I := I_b649) (fuel := 4000) hen ei_285 (e2_fa (cs_b646 hen l) e2_fz) (e2_fa ein_212 (e2_fa ein_217 (e2_fa ein_275 e2_fz))) (by decide) co_b649 fun M d _ hC hcall p e R s m args below meth c Q D cA A ads r0 ha hl0 => ?_
  have L_0 : e2_gdM M p l e R s m args below meth c Q D cA A ads r0 45 al_b649_0 [] E_b649_0 h_b649_0 := by
    refine e2_indL (u := 2) (j := 5) (lo := 2147483648) (hi := 2147483664) (b := 2) (dd := 0) hl0 (by decide) rfl rfl (Or.inr ⟨rfl, rfl⟩) rfl ci_b649_0 cj_b649_0 ?_
    intro r_0 k_0 hk_0 hp_0 hs_0 hn_0
    have hl_0 : r_0.length ≤ 3 := hs_0.len rfl
    have ha_0 := ha.ext hp_0
    exact e2_fromM hen ha_0 hcall (e2_cutA_ok (e2_fa (fun al st E h hc => hn_0 al st E h hc) e2_fz)) (hC []) (X := e2x_285) ex2_285 45 ck_b649_0
  have EN_0 := e2_entL (u := 2) (j := 5) (lo := 2147483648) (hi := 2147483664) hl0 rfl rfl rfl ci_b649_0 cj_b649_0 L_0
  exact e2_from hen ha hcall (e2_cutA_ok (e2_fa (fun al st E h hc => EN_0 al st E h hc) e2_fz)) (hC []) (X := e2x_285) ex2_285 0 ck_b649_e
/-! b650 X10_image -/
def as_b650 : List ev_V := [(2, 83, 0), (11, 0, 4294967295)]
def E_b650 : e2_E := [(2147483648, 2147583648, 0, 0), (2147483648, 2147483656, 1, 0)]
def bc307 : ev_C := (50, [(11, 0, 4294967295), (11, 0, 4294967295), (11, 0, 4294967295), (11, 0, 4294967295), (11, 0, 4294967295), (11, 0, 4294967295), (11, 0, 4294967295), (11, 0, 4294967295), (11, 0, 4294967295), (11, 0, 4294967295), (11, 0, 4294967295), (11, 0, 4294967295), (11, 0, 4294967295), (11, 0, 4294967295), (11, 0, 4294967295), (11, 0, 4294967295), (11, 0, 4294967295), (11, 0, 4294967295), (11, 0, 4294967295), (11, 0, 4294967295), (11, 0, 4294967295), (11, 0, 4294967295), (11, 0, 4294967295), (11, 0, 4294967295), (11, 0, 4294967295), (11, 2147483648, 2147484647), (11, 0, 4294967295), (11, 0, 4294967295), (11, 0, 4294967295), (11, 0, 4294967295), (11, 0, 4294967295), (11, 0, 4294967295), (11, 0, 4294967295), (11, 0, 4294967295), (11, 0, 4294967295), (11, 0, 4294967295), (11, 0, 4294967295), (11, 0, 4294967295), (11, 0, 4294967295), (11, 0, 4294967295), (11, 0, 4294967295), (11, 0, 4294967295), (11, 0, 4294967295), (11, 0, 4294967295), (11, 0, 4294967295), (11, 0, 4294967295), (11, 0, 4294967295), (11, 0, 4294967295), (11, 0, 4294967295), (11, 0, 4294967295), (11, 0, 4294967295), (11, 2147483648, 2147484647), (11, 0, 4294967295), (11, 0, 4294967295), (11, 0, 4294967295), (11, 0, 4294967295), (11, 0, 4294967295), (11, 0, 4294967295), (11, 0, 4294967295), (11, 0, 4294967295), (11, 0, 4294967295), (11, 0, 4294967295), (11, 0, 4294967295), (11, 0, 4294967295), (11, 0, 4294967295), (11, 0, 4294967295), (11, 0, 4294967295), (11, 0, 4294967295), (11, 0, 4294967295), (11, 0, 4294967295), (11, 0, 4294967295), (11, 0, 4294967295), (11, 0, 4294967295), (11, 0, 4294967295), (11, 0, 4294967295), (11, 0, 4294967295), (11, 0, 4294967295), (11, 2147483648, 2147484647)])
def bn4424 : e2_Q1 := (bc100, bc307)
def bn4425 : e2_Q2 := (bn4424, bn190)
def bn4426 : e2_Q3 := (bn4425, bn194)
def bn4427 : e2_Q4 := (bn4426, bn721)
def bn4428 : e2_Q5 := (bn4427, bn365)
def bn4429 : e2_Q6 := (bn4428, bn250)
def bn4430 : e2_Q7 := (bn736, bn4429)
def bn4431 : e2_Q8 := (bn824, bn4430)
noncomputable def f_b650 : ev_H := (bn4431 : e2_Q8)
noncomputable def q_b650_0 : ev_H := (bn4431 : e2_Q8)
noncomputable def rs_b650 : e2_Rs := [((11, 0, 4294967295), q_b650_0)]
noncomputable def s_b650 : e2_Sm := (286, as_b650, E_b650, f_b650, rs_b650)
noncomputable def S_b650 : List e2_Sm := []
noncomputable def I_b650 : List e2_In := [(212, 3, e2x_212)]
set_option maxRecDepth 1000000 in
theorem co_b650 : e2_okSB E_b650.length as_b650 f_b650 rs_b650 = true := by decide +kernel
def al_b650_0 : List ev_V := [(2, 83, 0), (11, 2147483648, 2147483650), (1, 2, 4294967296)]
def E_b650_0 : e2_E := [(2147483648, 2147583648, 0, 0), (2147483648, 2147483656, 1, 0), (2147483648, 2147483674, 2, 0)]
noncomputable def h_b650_0 : ev_H := (bn4431 : e2_Q8)
noncomputable def cl_b650_e : List (Nat × e2_S) := [(13, e2_cutL (al_b650_0.set 2 (11, 2147483648, 2147483674)) 2 (E_b650_0.take 2) h_b650_0)]
set_option maxRecDepth 1000000 in
theorem ck_b650_e : e2_run (e2_cal S_b650 I_b650 4000 1) (e2_fin rs_b650) e2x_286 (e2_bpL cl_b650_e) (e2_cutA cl_b650_e) 4000 (e2_seek e2x_286 0) (e2_al 3 as_b650) [] E_b650 f_b650 = true := by decide +kernel
noncomputable def cl_b650_0 : List (Nat × e2_S) := [(13, e2_cutL (al_b650_0.set 2 (13, 10, 2147483674)) 2 (E_b650_0.take 2) h_b650_0)]
set_option maxRecDepth 1000000 in
theorem ck_b650_0 : e2_runM (e2_cal S_b650 I_b650 4000 1) (e2_fin rs_b650) e2x_286 (e2_bpL cl_b650_0) (e2_cutA cl_b650_0) 4000 (e2_seek e2x_286 13) al_b650_0 [] E_b650_0 h_b650_0 = true := by decide +kernel
set_option maxRecDepth 1000000 in
theorem ci_b650_0 : e2_idl 2 (al_b650_0.set 2 (9, 0, 0)) = true := by decide +kernel
set_option maxRecDepth 1000000 in
theorem cj_b650_0 : e2_idh 2 8 h_b650_0 = true := by decide +kernel
theorem cs_b650 (hen : en_ok) (l : Launch) : e2_smOk l 2 s_b650 := by
  refine e2_conG (H := 0) (n := 1) (C := evd_286) (S := S_b650) (I := I_b650) (fuel := 4000) hen ei_286 e2_fz (e2_fa ein_212 e2_fz) (by decide) co_b650 fun M d _ hC hcall p e R s m args below meth c Q D cA A ads r0 ha hl0 => ?_
  have L_0 : e2_gdM M p l e R s m args below meth c Q D cA A ads r0 13 al_b650_0 [] E_b650_0 h_b650_0 := by
    refine e2_indL (u := 2) (j := 2) (lo := 2147483648) (hi := 2147483674) (b := 2) (dd := 0) hl0 (by decide) rfl rfl (Or.inr ⟨rfl, rfl⟩) rfl ci_b650_0 cj_b650_0 ?_
    intro r_0 k_0 hk_0 hp_0 hs_0 hn_0
    have hl_0 : r_0.length ≤ 3 := hs_0.len rfl
    have ha_0 := ha.ext hp_0
    exact e2_fromM hen ha_0 hcall (e2_cutA_ok (e2_fa (fun al st E h hc => hn_0 al st E h hc) e2_fz)) (hC [25, 27]) (X := e2x_286) ex2_286 13 ck_b650_0
  have EN_0 := e2_entL (u := 2) (j := 2) (lo := 2147483648) (hi := 2147483674) hl0 rfl rfl rfl ci_b650_0 cj_b650_0 L_0
  exact e2_from hen ha hcall (e2_cutA_ok (e2_fa (fun al st E h hc => EN_0 al st E h hc) e2_fz)) (hC [25, 27]) (X := e2x_286) ex2_286 0 ck_b650_e
/-! b651 X10_back -/
def as_b651 : List ev_V := [(2, 83, 0), (11, 0, 4294967295)]
def E_b651 : e2_E := [(2147483648, 2147583648, 0, 0), (2147483648, 2147483656, 1, 0)]
noncomputable def f_b651 : ev_H := (bn4431 : e2_Q8)
noncomputable def q_b651_0 : ev_H := (bn4431 : e2_Q8)
noncomputable def rs_b651 : e2_Rs := [((11, 0, 4294967295), q_b651_0)]
noncomputable def s_b651 : e2_Sm := (287, as_b651, E_b651, f_b651, rs_b651)
noncomputable def S_b651 : List e2_Sm := []
noncomputable def I_b651 : List e2_In := [(212, 3, e2x_212)]
set_option maxRecDepth 1000000 in
theorem co_b651 : e2_okSB E_b651.length as_b651 f_b651 rs_b651 = true := by decide +kernel
def al_b651_0 : List ev_V := [(2, 83, 0), (11, 2147483648, 2147483650), (1, 2, 4294967296)]
def E_b651_0 : e2_E := [(2147483648, 2147583648, 0, 0), (2147483648, 2147483656, 1, 0), (2147483648, 2147483674, 2, 0)]
noncomputable def h_b651_0 : ev_H := (bn4431 : e2_Q8)
noncomputable def cl_b651_e : List (Nat × e2_S) := [(22, e2_cutL (al_b651_0.set 2 (11, 2147483648, 2147483674)) 2 (E_b651_0.take 2) h_b651_0)]
set_option maxRecDepth 1000000 in
theorem ck_b651_e : e2_run (e2_cal S_b651 I_b651 4000 1) (e2_fin rs_b651) e2x_287 (e2_bpL cl_b651_e) (e2_cutA cl_b651_e) 4000 (e2_seek e2x_287 0) (e2_al 3 as_b651) [] E_b651 f_b651 = true := by decide +kernel
noncomputable def cl_b651_0 : List (Nat × e2_S) := [(22, e2_cutL (al_b651_0.set 2 (13, 10, 2147483674)) 2 (E_b651_0.take 2) h_b651_0)]
set_option maxRecDepth 1000000 in
theorem ck_b651_0 : e2_runM (e2_cal S_b651 I_b651 4000 1) (e2_fin rs_b651) e2x_287 (e2_bpL cl_b651_0) (e2_cutA cl_b651_0) 4000 (e2_seek e2x_287 22) al_b651_0 [] E_b651_0 h_b651_0 = true := by decide +kernel
set_option maxRecDepth 1000000 in
theorem ci_b651_0 : e2_idl 2 (al_b651_0.set 2 (9, 0, 0)) = true := by decide +kernel
set_option maxRecDepth 1000000 in
theorem cj_b651_0 : e2_idh 2 8 h_b651_0 = true := by decide +kernel
theorem cs_b651 (hen : en_ok) (l : Launch) : e2_smOk l 2 s_b651 := by
  refine e2_conG (H := 0) (n := 1) (C := evd_287) (S := S_b651) (I := I_b651) (fuel := 4000) hen ei_287 e2_fz (e2_fa ein_212 e2_fz) (by decide) co_b651 fun M d _ hC hcall p e R s m args below meth c Q D cA A ads r0 ha hl0 => ?_
  have L_0 : e2_gdM M p l e R s m args below meth c Q D cA A ads r0 22 al_b651_0 [] E_b651_0 h_b651_0 := by
    refine e2_indL (u := 2) (j := 2) (lo := 2147483648) (hi := 2147483674) (b := 2) (dd := 0) hl0 (by decide) rfl rfl (Or.inr ⟨rfl, rfl⟩) rfl ci_b651_0 cj_b651_0 ?_
    intro r_0 k_0 hk_0 hp_0 hs_0 hn_0
    have hl_0 : r_0.length ≤ 3 := hs_0.len rfl
    have ha_0 := ha.ext hp_0
    exact e2_fromM hen ha_0 hcall (e2_cutA_ok (e2_fa (fun al st E h hc => hn_0 al st E h hc) e2_fz)) (hC [32, 39]) (X := e2x_287) ex2_287 22 ck_b651_0
  have EN_0 := e2_entL (u := 2) (j := 2) (lo := 2147483648) (hi := 2147483674) hl0 rfl rfl rfl ci_b651_0 cj_b651_0 L_0
  exact e2_from hen ha hcall (e2_cutA_ok (e2_fa (fun al st E h hc => EN_0 al st E h hc) e2_fz)) (hC [32, 39]) (X := e2x_287) ex2_287 0 ck_b651_e
/-! b652 X10_about -/
def as_b652 : List ev_V := [(2, 83, 0), (11, 0, 4294967295)]
def E_b652 : e2_E := [(2147483648, 2147583648, 0, 0), (2147483648, 2147483656, 1, 0)]
def bn4432 : e2_Q5 := (bn699, bn3579)
def bn4433 : e2_Q5 := (bn45, bn756)
def bn4434 : e2_Q6 := (bn4432, bn4433)
def bn4435 : e2_Q7 := (bn4434, bn3555)
def bn4436 : e2_Q6 := (bn777, bn735)
def bn4437 : e2_Q6 := (bn3561, bn1384)
def bn4438 : e2_Q7 := (bn4436, bn4437)
def bn4439 : e2_Q8 := (bn4435, bn4438)
noncomputable def f_b652 : ev_H := (bn4439 : e2_Q8)
noncomputable def q_b652_0 : ev_H := (bn4439 : e2_Q8)
noncomputable def rs_b652 : e2_Rs := [((11, 0, 4294967295), q_b652_0)]
noncomputable def s_b652 : e2_Sm := (288, as_b652, E_b652, f_b652, rs_b652)
noncomputable def S_b652 : List e2_Sm := [s_b550]
noncomputable def I_b652 : List e2_In := [(216, 1, e2x_216), (217, 1, e2x_217)]
set_option maxRecDepth 1000000 in
theorem ck_b652 : e2_run (e2_cal S_b652 I_b652 4000 1) (e2_fin rs_b652) e2x_288 (fun _ => false) (fun _ _ _ _ _ => false) 4000 (e2_seek e2x_288 0) (e2_al 2 as_b652) [] E_b652 f_b652 = true := by decide +kernel
set_option maxRecDepth 1000000 in
theorem co_b652 : e2_okSB E_b652.length as_b652 f_b652 rs_b652 = true := by decide +kernel
theorem cs_b652 (hen : en_ok) (l : Launch) : e2_smOk l 4 s_b652 := e2_con0 (H := 2) (n := 1) (C := evd_288) (S := S_b652) (I := I_b652) (fuel := 4000) [] hen ei_288 (e2_fa (cs_b550 hen l) e2_fz) (e2_fa ein_216 (e2_fa ein_217 e2_fz)) (by decide) co_b652 ex2_288 ck_b652
/-! b653 X10_feed -/
def as_b653 : List ev_V := [(2, 83, 0), (11, 0, 4294967295), (11, 0, 4294967295), (11, 0, 4294967295), (11, 0, 4294967295), (11, 0, 4294967295)]
def E_b653 : e2_E := [(2147483648, 2147583648, 0, 0), (2147483648, 2147483656, 1, 0)]
def bn4440 : e2_Q4 := (bn37, bn2699)
def bn4441 : e2_Q5 := (bn4440, bn337)
def bn4442 : e2_Q6 := (bn30, bn4441)
def bn4443 : e2_Q7 := (bn4442, bn345)
def bn4444 : e2_Q8 := (bn4443, bn3559)
noncomputable def f_b653 : ev_H := (bn4444 : e2_Q8)
def bc308 : ev_C := (10, [(0, 0, 0), (2, 88, 0), (2, 115, 0), (2, 114, 0), (2, 86, 0), (2, 112, 0), (11, 2147483648, 2147483688), (2, 118, 0), (2, 120, 0), (2, 131, 0), (2, 91, 0), (11, 2147483648, 2147483668), (2, 123, 0), (11, 2147483648, 2147483649), (11, 2147483668, 2147485248), (2, 87, 0), (2, 84, 0), (2, 122, 0), (2, 100, 0), (2, 132, 0), (11, 2147483648, 2147483668), (11, 2147483648, 2147485248), (1, 0, 4294967296), (11, 2147483648, 2147483653), (11, 2147483648, 2147485248), (2, 93, 0), (2, 104, 0), (11, 2147483648, 2147483678), (2, 89, 0), (2, 92, 0), (2, 119, 0), (2, 90, 0), (2, 94, 0), (2, 103, 0), (11, 2147483648, 2147483688), (11, 2147483648, 2147549184), (11, 0, 4294967295), (11, 2147483648, 2147485249), (11, 2147483648, 2147483653), (11, 2147483648, 2147483668), (2, 85, 0), (11, 0, 4294967295), (5, 0, 0), (2, 95, 0), (2, 96, 0), (2, 97, 0), (2, 98, 0), (2, 99, 0), (2, 101, 0), (2, 102, 0), (2, 105, 0), (2, 106, 0), (2, 107, 0), (2, 108, 0), (2, 109, 0), (2, 110, 0), (2, 111, 0), (11, 2147483648, 2147484768), (11, 2147482048, 2147483655), (11, 2147483648, 2147483738), (11, 2147483648, 2147483678), (11, 0, 4294967295), (11, 0, 4294967295), (11, 0, 4294967295), (11, 0, 4294967295), (11, 0, 4294967295), (2, 113, 0), (2, 116, 0), (2, 117, 0), (2, 121, 0), (11, 0, 4294967295), (11, 0, 4294967295), (2, 124, 0), (2, 125, 0), (11, 0, 4294967295), (2, 126, 0), (2, 127, 0), (2, 128, 0), (2, 129, 0), (2, 130, 0)])
def bn4445 : e2_Q1 := (bc308, bc3)
def bn4446 : e2_Q2 := (bn196, bn4445)
def bn4447 : e2_Q3 := (bn4446, bn201)
def bn4448 : e2_Q4 := (bn195, bn4447)
def bn4449 : e2_Q5 := (bn4448, bn365)
def bn4450 : e2_Q6 := (bn4449, bn250)
def bn4451 : e2_Q7 := (bn736, bn4450)
def bn4452 : e2_Q8 := (bn4443, bn4451)
noncomputable def q_b653_0 : ev_H := (bn4452 : e2_Q8)
noncomputable def rs_b653 : e2_Rs := [((11, 2147483647, 2147485248), q_b653_0)]
noncomputable def s_b653 : e2_Sm := (289, as_b653, E_b653, f_b653, rs_b653)
noncomputable def S_b653 : List e2_Sm := []
noncomputable def I_b653 : List e2_In := []
set_option maxRecDepth 1000000 in
theorem co_b653 : e2_okSB E_b653.length as_b653 f_b653 rs_b653 = true := by decide +kernel
def al_b653_0 : List ev_V := [(2, 83, 0), (11, 0, 4294967295), (11, 0, 4294967295), (11, 0, 4294967295), (11, 0, 4294967295), (11, 0, 4294967295), (1, 2, 4294967296), (9, 0, 0)]
def E_b653_0 : e2_E := [(2147483648, 2147583648, 0, 0), (2147483648, 2147483656, 1, 0), (2147483648, 2147483668, 2, 0)]
def bc309 : ev_C := (10, [(0, 0, 0), (2, 88, 0), (2, 115, 0), (2, 114, 0), (2, 86, 0), (2, 112, 0), (11, 2147483648, 2147483688), (2, 118, 0), (2, 120, 0), (2, 131, 0), (2, 91, 0), (11, 2147483648, 2147483668), (2, 123, 0), (11, 2147483648, 2147483649), (11, 2147483648, 2147485228), (2, 87, 0), (2, 84, 0), (2, 122, 0), (2, 100, 0), (2, 132, 0), (11, 2147483648, 2147483668), (11, 2147483648, 2147485248), (1, 0, 4294967296), (11, 2147483648, 2147483653), (11, 2147483648, 2147485248), (2, 93, 0), (2, 104, 0), (11, 2147483648, 2147483678), (2, 89, 0), (2, 92, 0), (2, 119, 0), (2, 90, 0), (2, 94, 0), (2, 103, 0), (11, 2147483648, 2147483688), (11, 2147483648, 2147549184), (11, 0, 4294967295), (11, 2147483648, 2147485249), (11, 2147483648, 2147483653), (11, 2147483648, 2147483668), (2, 85, 0), (11, 0, 4294967295), (5, 0, 0), (2, 95, 0), (2, 96, 0), (2, 97, 0), (2, 98, 0), (2, 99, 0), (2, 101, 0), (2, 102, 0), (2, 105, 0), (2, 106, 0), (2, 107, 0), (2, 108, 0), (2, 109, 0), (2, 110, 0), (2, 111, 0), (11, 2147483648, 2147484768), (11, 2147482048, 2147483655), (11, 2147483648, 2147483738), (11, 2147483648, 2147483678), (11, 0, 4294967295), (11, 0, 4294967295), (11, 0, 4294967295), (11, 0, 4294967295), (11, 0, 4294967295), (2, 113, 0), (2, 116, 0), (2, 117, 0), (2, 121, 0), (11, 0, 4294967295), (11, 0, 4294967295), (2, 124, 0), (2, 125, 0), (11, 0, 4294967295), (2, 126, 0), (2, 127, 0), (2, 128, 0), (2, 129, 0), (2, 130, 0)])
def bn4453 : e2_Q1 := (bc309, bc3)
def bn4454 : e2_Q2 := (bn196, bn4453)
def bn4455 : e2_Q3 := (bn4454, bn201)
def bn4456 : e2_Q4 := (bn195, bn4455)
def bn4457 : e2_Q5 := (bn4456, bn365)
def bn4458 : e2_Q6 := (bn4457, bn250)
def bn4459 : e2_Q7 := (bn736, bn4458)
def bn4460 : e2_Q8 := (bn4443, bn4459)
noncomputable def h_b653_0 : ev_H := (bn4460 : e2_Q8)
noncomputable def cl_b653_e : List (Nat × e2_S) := [(18, e2_cutL (al_b653_0.set 6 (11, 2147483648, 2147483668)) 2 (E_b653_0.take 2) h_b653_0)]
set_option maxRecDepth 1000000 in
theorem ck_b653_e : e2_run (e2_cal S_b653 I_b653 4000 0) (e2_fin rs_b653) e2x_289 (e2_bpL cl_b653_e) (e2_cutA cl_b653_e) 4000 (e2_seek e2x_289 0) (e2_al 8 as_b653) [] E_b653 f_b653 = true := by decide +kernel
noncomputable def cl_b653_0 : List (Nat × e2_S) := [(18, e2_cutL (al_b653_0.set 6 (13, 10, 2147483668)) 2 (E_b653_0.take 2) h_b653_0)]
set_option maxRecDepth 1000000 in
theorem ck_b653_0 : e2_runM (e2_cal S_b653 I_b653 4000 0) (e2_fin rs_b653) e2x_289 (e2_bpL cl_b653_0) (e2_cutA cl_b653_0) 4000 (e2_seek e2x_289 18) al_b653_0 [] E_b653_0 h_b653_0 = true := by decide +kernel
set_option maxRecDepth 1000000 in
theorem ci_b653_0 : e2_idl 2 (al_b653_0.set 6 (9, 0, 0)) = true := by decide +kernel
set_option maxRecDepth 1000000 in
theorem cj_b653_0 : e2_idh 2 8 h_b653_0 = true := by decide +kernel
theorem cs_b653 (hen : en_ok) (l : Launch) : e2_smOk l 1 s_b653 := by
  refine e2_conG (H := 0) (n := 0) (C := evd_289) (S := S_b653) (I := I_b653) (fuel := 4000) hen ei_289 e2_fz e2_fz (by decide) co_b653 fun M d _ hC hcall p e R s m args below meth c Q D cA A ads r0 ha hl0 => ?_
  have L_0 : e2_gdM M p l e R s m args below meth c Q D cA A ads r0 18 al_b653_0 [] E_b653_0 h_b653_0 := by
    refine e2_indL (u := 2) (j := 6) (lo := 2147483648) (hi := 2147483668) (b := 2) (dd := 0) hl0 (by decide) rfl rfl (Or.inr ⟨rfl, rfl⟩) rfl ci_b653_0 cj_b653_0 ?_
    intro r_0 k_0 hk_0 hp_0 hs_0 hn_0
    have hl_0 : r_0.length ≤ 3 := hs_0.len rfl
    have ha_0 := ha.ext hp_0
    exact e2_fromM hen ha_0 hcall (e2_cutA_ok (e2_fa (fun al st E h hc => hn_0 al st E h hc) e2_fz)) (hC []) (X := e2x_289) ex2_289 18 ck_b653_0
  have EN_0 := e2_entL (u := 2) (j := 6) (lo := 2147483648) (hi := 2147483668) hl0 rfl rfl rfl ci_b653_0 cj_b653_0 L_0
  exact e2_from hen ha hcall (e2_cutA_ok (e2_fa (fun al st E h hc => EN_0 al st E h hc) e2_fz)) (hC []) (X := e2x_289) ex2_289 0 ck_b653_e
