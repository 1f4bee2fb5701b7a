/-! CONTRACTS b, printed by a program -/
/-! b44 X10_layFrom -/
def as_b44 : List ev_V := [(2, 83, 0), (0, 19, 0), (11, 2147483648, 2147483656), (11, 0, 4294967295)]
def E_b44 : e2_E := [(2147483648, 2147583648, 0, 0), (2147483648, 2147483656, 1, 0), (2147483648, 2147483688, 2, 0), (2147483648, 2147483688, 3, 0)]
def bn454 : e2_Q3 := (bn256, bn447)
def bn455 : e2_Q4 := (bn196, bn454)
def bn456 : e2_Q5 := (bn455, bn219)
def bn457 : e2_Q6 := (bn456, bn251)
def bn458 : e2_Q7 := (bn389, bn457)
def bn459 : e2_Q8 := (bn446, bn458)
noncomputable def f_b44 : ev_H := (bn459 : e2_Q8)
noncomputable def q_b44_0 : ev_H := (bn459 : e2_Q8)
noncomputable def rs_b44 : e2_Rs := [((9, 0, 0), q_b44_0)]
noncomputable def s_b44 : e2_Sm := (229, as_b44, E_b44, f_b44, rs_b44)
noncomputable def S_b44 : List e2_Sm := []
noncomputable def I_b44 : List e2_In := [(215, 2, e2x_215), (216, 1, e2x_216), (217, 1, e2x_217), (225, 5, e2x_225), (226, 3, e2x_226), (227, 2, e2x_227), (228, 3, e2x_228)]
set_option maxRecDepth 1000000 in
theorem co_b44 : e2_okSB E_b44.length as_b44 f_b44 rs_b44 = true := by decide +kernel
def al_b44_0 : List ev_V := [(2, 83, 0), (0, 19, 0), (11, 2147483648, 2147483656), (11, 0, 4294967295), (11, 2147483819, 2147483827), (1, 4, 4294967296), (9, 0, 0), (9, 0, 0)]
def E_b44_0 : e2_E := [(2147483648, 2147583648, 0, 0), (2147483648, 2147483656, 1, 0), (2147483648, 2147483688, 2, 0), (2147483648, 2147483688, 3, 0), (2147483648, 2147483656, 4, 0)]
noncomputable def h_b44_0 : ev_H := (bn459 : e2_Q8)
noncomputable def cl_b44_e : List (Nat × e2_S) := [(28, e2_cutL (al_b44_0.set 5 (11, 2147483648, 2147483656)) 4 (E_b44_0.take 4) h_b44_0)]
set_option maxRecDepth 1000000 in
theorem ck_b44_e : e2_run (e2_cal S_b44 I_b44 4000 2) (e2_fin rs_b44) e2x_229 (e2_bpL cl_b44_e) (e2_cutA cl_b44_e) 4000 (e2_seek e2x_229 0) (e2_al 8 as_b44) [] E_b44 f_b44 = true := by decide +kernel
noncomputable def cl_b44_0 : List (Nat × e2_S) := [(28, e2_cutL (al_b44_0.set 5 (13, 12, 2147483656)) 4 (E_b44_0.take 4) h_b44_0)]
set_option maxRecDepth 1000000 in
theorem ck_b44_0 : e2_runM (e2_cal S_b44 I_b44 4000 2) (e2_fin rs_b44) e2x_229 (e2_bpL cl_b44_0) (e2_cutA cl_b44_0) 4000 (e2_seek e2x_229 28) al_b44_0 [] E_b44_0 h_b44_0 = true := by decide +kernel
set_option maxRecDepth 1000000 in
theorem ci_b44_0 : e2_idl 4 (al_b44_0.set 5 (9, 0, 0)) = true := by decide +kernel
set_option maxRecDepth 1000000 in
theorem cj_b44_0 : e2_idh 4 8 h_b44_0 = true := by decide +kernel
theorem cs_b44 (hen : en_ok) (l : Launch) : e2_smOk l 3 s_b44 := by
  refine e2_conG (H := 0) (n := 2) (C := evd_229) (S := S_b44) (I := I_b44) (fuel := 4000) hen ei_229 e2_fz (e2_fa ein_215 (e2_fa ein_216 (e2_fa ein_217 (e2_fa ein_225 (e2_fa ein_226 (e2_fa ein_227 (e2_fa ein_228 e2_fz))))))) (by decide) co_b44 fun M d _ hC hcall p e R s m args below meth c Q D cA A ads r0 ha hl0 => ?_
  have L_0 : e2_gdM M p l e R s m args below meth c Q D cA A ads r0 28 al_b44_0 [] E_b44_0 h_b44_0 := by
    refine e2_indL (u := 4) (j := 5) (lo := 2147483648) (hi := 2147483656) (b := 4) (dd := 0) hl0 (by decide) rfl rfl (Or.inr ⟨rfl, rfl⟩) rfl ci_b44_0 cj_b44_0 ?_
    intro r_0 k_0 hk_0 hp_0 hs_0 hn_0
    have hl_0 : r_0.length ≤ 5 := hs_0.len rfl
    have ha_0 := ha.ext hp_0
    exact e2_fromM hen ha_0 hcall (e2_cutA_ok (e2_fa (fun al st E h hc => hn_0 al st E h hc) e2_fz)) (hC [28]) (X := e2x_229) ex2_229 28 ck_b44_0
  have EN_0 := e2_entL (u := 4) (j := 5) (lo := 2147483648) (hi := 2147483656) hl0 rfl rfl rfl ci_b44_0 cj_b44_0 L_0
  exact e2_from hen ha hcall (e2_cutA_ok (e2_fa (fun al st E h hc => EN_0 al st E h hc) e2_fz)) (hC [28]) (X := e2x_229) ex2_229 0 ck_b44_e
/-! b45 X10_layFrom -/
def as_b45 : List ev_V := [(2, 83, 0), (0, 18, 0), (11, 2147483648, 2147483656), (11, 0, 4294967295)]
def E_b45 : e2_E := [(2147483648, 2147583648, 0, 0), (2147483648, 2147483656, 1, 0), (2147483648, 2147483688, 2, 0), (2147483648, 2147483688, 3, 0)]
noncomputable def f_b45 : ev_H := (bn459 : e2_Q8)
noncomputable def q_b45_0 : ev_H := (bn459 : e2_Q8)
noncomputable def rs_b45 : e2_Rs := [((9, 0, 0), q_b45_0)]
noncomputable def s_b45 : e2_Sm := (229, as_b45, E_b45, f_b45, rs_b45)
noncomputable def S_b45 : List e2_Sm := []
noncomputable def I_b45 : List e2_In := [(215, 2, e2x_215), (216, 1, e2x_216), (217, 1, e2x_217), (225, 5, e2x_225), (226, 3, e2x_226), (227, 2, e2x_227), (228, 3, e2x_228)]
set_option maxRecDepth 1000000 in
theorem co_b45 : e2_okSB E_b45.length as_b45 f_b45 rs_b45 = true := by decide +kernel
def al_b45_0 : List ev_V := [(2, 83, 0), (0, 18, 0), (11, 2147483648, 2147483656), (11, 0, 4294967295), (11, 2147483810, 2147483818), (1, 4, 4294967296), (9, 0, 0), (9, 0, 0)]
def E_b45_0 : e2_E := [(2147483648, 2147583648, 0, 0), (2147483648, 2147483656, 1, 0), (2147483648, 2147483688, 2, 0), (2147483648, 2147483688, 3, 0), (2147483648, 2147483656, 4, 0)]
noncomputable def h_b45_0 : ev_H := (bn459 : e2_Q8)
noncomputable def cl_b45_e : List (Nat × e2_S) := [(28, e2_cutL (al_b45_0.set 5 (11, 2147483648, 2147483656)) 4 (E_b45_0.take 4) h_b45_0)]
set_option maxRecDepth 1000000 in
theorem ck_b45_e : e2_run (e2_cal S_b45 I_b45 4000 2) (e2_fin rs_b45) e2x_229 (e2_bpL cl_b45_e) (e2_cutA cl_b45_e) 4000 (e2_seek e2x_229 0) (e2_al 8 as_b45) [] E_b45 f_b45 = true := by decide +kernel
noncomputable def cl_b45_0 : List (Nat × e2_S) := [(28, e2_cutL (al_b45_0.set 5 (13, 12, 2147483656)) 4 (E_b45_0.take 4) h_b45_0)]
set_option maxRecDepth 1000000 in
theorem ck_b45_0 : e2_runM (e2_cal S_b45 I_b45 4000 2) (e2_fin rs_b45) e2x_229 (e2_bpL cl_b45_0) (e2_cutA cl_b45_0) 4000 (e2_seek e2x_229 28) al_b45_0 [] E_b45_0 h_b45_0 = true := by decide +kernel
set_option maxRecDepth 1000000 in
theorem ci_b45_0 : e2_idl 4 (al_b45_0.set 5 (9, 0, 0)) = true := by decide +kernel
set_option maxRecDepth 1000000 in
theorem cj_b45_0 : e2_idh 4 8 h_b45_0 = true := by decide +kernel
theorem cs_b45 (hen : en_ok) (l : Launch) : e2_smOk l 3 s_b45 := by
  refine e2_conG (H := 0) (n := 2) (C := evd_229) (S := S_b45) (I := I_b45) (fuel := 4000) hen ei_229 e2_fz (e2_fa ein_215 (e2_fa ein_216 (e2_fa ein_217 (e2_fa ein_225 (e2_fa ein_226 (e2_fa ein_227 (e2_fa ein_228 e2_fz))))))) (by decide) co_b45 fun M d _ hC hcall p e R s m args below meth c Q D cA A ads r0 ha hl0 => ?_
  have L_0 : e2_gdM M p l e R s m args below meth c Q D cA A ads r0 28 al_b45_0 [] E_b45_0 h_b45_0 := by
    refine e2_indL (u := 4) (j := 5) (lo := 2147483648) (hi := 2147483656) (b := 4) (dd := 0) hl0 (by decide) rfl rfl (Or.inr ⟨rfl, rfl⟩) rfl ci_b45_0 cj_b45_0 ?_
    intro r_0 k_0 hk_0 hp_0 hs_0 hn_0
    have hl_0 : r_0.length ≤ 5 := hs_0.len rfl
    have ha_0 := ha.ext hp_0
    exact e2_fromM hen ha_0 hcall (e2_cutA_ok (e2_fa (fun al st E h hc => hn_0 al st E h hc) e2_fz)) (hC [28]) (X := e2x_229) ex2_229 28 ck_b45_0
  have EN_0 := e2_entL (u := 4) (j := 5) (lo := 2147483648) (hi := 2147483656) hl0 rfl rfl rfl ci_b45_0 cj_b45_0 L_0
  exact e2_from hen ha hcall (e2_cutA_ok (e2_fa (fun al st E h hc => EN_0 al st E h hc) e2_fz)) (hC [28]) (X := e2x_229) ex2_229 0 ck_b45_e
/-! b46 X10_layFrom -/
def as_b46 : List ev_V := [(2, 83, 0), (0, 17, 0), (11, 2147483648, 2147483656), (11, 0, 4294967295)]
def E_b46 : e2_E := [(2147483648, 2147583648, 0, 0), (2147483648, 2147483656, 1, 0), (2147483648, 2147483688, 2, 0), (2147483648, 2147483688, 3, 0)]
noncomputable def f_b46 : ev_H := (bn459 : e2_Q8)
noncomputable def q_b46_0 : ev_H := (bn459 : e2_Q8)
noncomputable def rs_b46 : e2_Rs := [((9, 0, 0), q_b46_0)]
noncomputable def s_b46 : e2_Sm := (229, as_b46, E_b46, f_b46, rs_b46)
noncomputable def S_b46 : List e2_Sm := []
noncomputable def I_b46 : List e2_In := [(215, 2, e2x_215), (216, 1, e2x_216), (217, 1, e2x_217), (225, 5, e2x_225), (226, 3, e2x_226), (227, 2, e2x_227), (228, 3, e2x_228)]
set_option maxRecDepth 1000000 in
theorem co_b46 : e2_okSB E_b46.length as_b46 f_b46 rs_b46 = true := by decide +kernel
def al_b46_0 : List ev_V := [(2, 83, 0), (0, 17, 0), (11, 2147483648, 2147483656), (11, 0, 4294967295), (11, 2147483801, 2147483809), (1, 4, 4294967296), (9, 0, 0), (9, 0, 0)]
def E_b46_0 : e2_E := [(2147483648, 2147583648, 0, 0), (2147483648, 2147483656, 1, 0), (2147483648, 2147483688, 2, 0), (2147483648, 2147483688, 3, 0), (2147483648, 2147483656, 4, 0)]
noncomputable def h_b46_0 : ev_H := (bn459 : e2_Q8)
noncomputable def cl_b46_e : List (Nat × e2_S) := [(28, e2_cutL (al_b46_0.set 5 (11, 2147483648, 2147483656)) 4 (E_b46_0.take 4) h_b46_0)]
set_option maxRecDepth 1000000 in
theorem ck_b46_e : e2_run (e2_cal S_b46 I_b46 4000 2) (e2_fin rs_b46) e2x_229 (e2_bpL cl_b46_e) (e2_cutA cl_b46_e) 4000 (e2_seek e2x_229 0) (e2_al 8 as_b46) [] E_b46 f_b46 = true := by decide +kernel
noncomputable def cl_b46_0 : List (Nat × e2_S) := [(28, e2_cutL (al_b46_0.set 5 (13, 12, 2147483656)) 4 (E_b46_0.take 4) h_b46_0)]
set_option maxRecDepth 1000000 in
theorem ck_b46_0 : e2_runM (e2_cal S_b46 I_b46 4000 2) (e2_fin rs_b46) e2x_229 (e2_bpL cl_b46_0) (e2_cutA cl_b46_0) 4000 (e2_seek e2x_229 28) al_b46_0 [] E_b46_0 h_b46_0 = true := by decide +kernel
set_option maxRecDepth 1000000 in
theorem ci_b46_0 : e2_idl 4 (al_b46_0.set 5 (9, 0, 0)) = true := by decide +kernel
set_option maxRecDepth 1000000 in
theorem cj_b46_0 : e2_idh 4 8 h_b46_0 = true := by decide +kernel
theorem cs_b46 (hen : en_ok) (l : Launch) : e2_smOk l 3 s_b46 := by
  refine e2_conG (H := 0) (n := 2) (C := evd_229) (S := S_b46) (I := I_b46) (fuel := 4000) hen ei_229 e2_fz (e2_fa ein_215 (e2_fa ein_216 (e2_fa ein_217 (e2_fa ein_225 (e2_fa ein_226 (e2_fa ein_227 (e2_fa ein_228 e2_fz))))))) (by decide) co_b46 fun M d _ hC hcall p e R s m args below meth c Q D cA A ads r0 ha hl0 => ?_
  have L_0 : e2_gdM M p l e R s m args below meth c Q D cA A ads r0 28 al_b46_0 [] E_b46_0 h_b46_0 := by
    refine e2_indL (u := 4) (j := 5) (lo := 2147483648) (hi := 2147483656) (b := 4) (dd := 0) hl0 (by decide) rfl rfl (Or.inr ⟨rfl, rfl⟩) rfl ci_b46_0 cj_b46_0 ?_
    intro r_0 k_0 hk_0 hp_0 hs_0 hn_0
    have hl_0 : r_0.length ≤ 5 := hs_0.len rfl
    have ha_0 := ha.ext hp_0
    exact e2_fromM hen ha_0 hcall (e2_cutA_ok (e2_fa (fun al st E h hc => hn_0 al st E h hc) e2_fz)) (hC [28]) (X := e2x_229) ex2_229 28 ck_b46_0
  have EN_0 := e2_entL (u := 4) (j := 5) (lo := 2147483648) (hi := 2147483656) hl0 rfl rfl rfl ci_b46_0 cj_b46_0 L_0
  exact e2_from hen ha hcall (e2_cutA_ok (e2_fa (fun al st E h hc => EN_0 al st E h hc) e2_fz)) (hC [28]) (X := e2x_229) ex2_229 0 ck_b46_e
/-! b47 X10_layFrom -/
def as_b47 : List ev_V := [(2, 83, 0), (0, 16, 0), (11, 2147483648, 2147483656), (11, 0, 4294967295)]
def E_b47 : e2_E := [(2147483648, 2147583648, 0, 0), (2147483648, 2147483656, 1, 0), (2147483648, 2147483688, 2, 0), (2147483648, 2147483688, 3, 0)]
noncomputable def f_b47 : ev_H := (bn459 : e2_Q8)
noncomputable def q_b47_0 : ev_H := (bn459 : e2_Q8)
noncomputable def rs_b47 : e2_Rs := [((9, 0, 0), q_b47_0)]
noncomputable def s_b47 : e2_Sm := (229, as_b47, E_b47, f_b47, rs_b47)
noncomputable def S_b47 : List e2_Sm := []
noncomputable def I_b47 : List e2_In := [(215, 2, e2x_215), (216, 1, e2x_216), (217, 1, e2x_217), (225, 5, e2x_225), (226, 3, e2x_226), (227, 2, e2x_227), (228, 3, e2x_228)]
set_option maxRecDepth 1000000 in
theorem co_b47 : e2_okSB E_b47.length as_b47 f_b47 rs_b47 = true := by decide +kernel
def al_b47_0 : List ev_V := [(2, 83, 0), (0, 16, 0), (11, 2147483648, 2147483656), (11, 0, 4294967295), (11, 2147483792, 2147483800), (1, 4, 4294967296), (9, 0, 0), (9, 0, 0)]
def E_b47_0 : e2_E := [(2147483648, 2147583648, 0, 0), (2147483648, 2147483656, 1, 0), (2147483648, 2147483688, 2, 0), (2147483648, 2147483688, 3, 0), (2147483648, 2147483656, 4, 0)]
noncomputable def h_b47_0 : ev_H := (bn459 : e2_Q8)
noncomputable def cl_b47_e : List (Nat × e2_S) := [(28, e2_cutL (al_b47_0.set 5 (11, 2147483648, 2147483656)) 4 (E_b47_0.take 4) h_b47_0)]
set_option maxRecDepth 1000000 in
theorem ck_b47_e : e2_run (e2_cal S_b47 I_b47 4000 2) (e2_fin rs_b47) e2x_229 (e2_bpL cl_b47_e) (e2_cutA cl_b47_e) 4000 (e2_seek e2x_229 0) (e2_al 8 as_b47) [] E_b47 f_b47 = true := by decide +kernel
noncomputable def cl_b47_0 : List (Nat × e2_S) := [(28, e2_cutL (al_b47_0.set 5 (13, 12, 2147483656)) 4 (E_b47_0.take 4) h_b47_0)]
set_option maxRecDepth 1000000 in
theorem ck_b47_0 : e2_runM (e2_cal S_b47 I_b47 4000 2) (e2_fin rs_b47) e2x_229 (e2_bpL cl_b47_0) (e2_cutA cl_b47_0) 4000 (e2_seek e2x_229 28) al_b47_0 [] E_b47_0 h_b47_0 = true := by decide +kernel
set_option maxRecDepth 1000000 in
theorem ci_b47_0 : e2_idl 4 (al_b47_0.set 5 (9, 0, 0)) = true := by decide +kernel
set_option maxRecDepth 1000000 in
theorem cj_b47_0 : e2_idh 4 8 h_b47_0 = true := by decide +kernel
theorem cs_b47 (hen : en_ok) (l : Launch) : e2_smOk l 3 s_b47 := by
  refine e2_conG (H := 0) (n := 2) (C := evd_229) (S := S_b47) (I := I_b47) (fuel := 4000) hen ei_229 e2_fz (e2_fa ein_215 (e2_fa ein_216 (e2_fa ein_217 (e2_fa ein_225 (e2_fa ein_226 (e2_fa ein_227 (e2_fa ein_228 e2_fz))))))) (by decide) co_b47 fun M d _ hC hcall p e R s m args below meth c Q D cA A ads r0 ha hl0 => ?_
  have L_0 : e2_gdM M p l e R s m args below meth c Q D cA A ads r0 28 al_b47_0 [] E_b47_0 h_b47_0 := by
    refine e2_indL (u := 4) (j := 5) (lo := 2147483648) (hi := 2147483656) (b := 4) (dd := 0) hl0 (by decide) rfl rfl (Or.inr ⟨rfl, rfl⟩) rfl ci_b47_0 cj_b47_0 ?_
    intro r_0 k_0 hk_0 hp_0 hs_0 hn_0
    have hl_0 : r_0.length ≤ 5 := hs_0.len rfl
    have ha_0 := ha.ext hp_0
    exact e2_fromM hen ha_0 hcall (e2_cutA_ok (e2_fa (fun al st E h hc => hn_0 al st E h hc) e2_fz)) (hC [28]) (X := e2x_229) ex2_229 28 ck_b47_0
  have EN_0 := e2_entL (u := 4) (j := 5) (lo := 2147483648) (hi := 2147483656) hl0 rfl rfl rfl ci_b47_0 cj_b47_0 L_0
  exact e2_from hen ha hcall (e2_cutA_ok (e2_fa (fun al st E h hc => EN_0 al st E h hc) e2_fz)) (hC [28]) (X := e2x_229) ex2_229 0 ck_b47_e
/-! b48 X10_layFrom -/
def as_b48 : List ev_V := [(2, 83, 0), (0, 15, 0), (11, 2147483648, 2147483656), (11, 0, 4294967295)]
def E_b48 : e2_E := [(2147483648, 2147583648, 0, 0), (2147483648, 2147483656, 1, 0), (2147483648, 2147483688, 2, 0), (2147483648, 2147483688, 3, 0)]
noncomputable def f_b48 : ev_H := (bn459 : e2_Q8)
noncomputable def q_b48_0 : ev_H := (bn459 : e2_Q8)
noncomputable def rs_b48 : e2_Rs := [((9, 0, 0), q_b48_0)]
noncomputable def s_b48 : e2_Sm := (229, as_b48, E_b48, f_b48, rs_b48)
noncomputable def S_b48 : List e2_Sm := []
noncomputable def I_b48 : List e2_In := [(215, 2, e2x_215), (216, 1, e2x_216), (217, 1, e2x_217), (225, 5, e2x_225), (226, 3, e2x_226), (227, 2, e2x_227), (228, 3, e2x_228)]
set_option maxRecDepth 1000000 in
theorem co_b48 : e2_okSB E_b48.length as_b48 f_b48 rs_b48 = true := by decide +kernel
def al_b48_0 : List ev_V := [(2, 83, 0), (0, 15, 0), (11, 2147483648, 2147483656), (11, 0, 4294967295), (11, 2147483783, 2147483791), (1, 4, 4294967296), (9, 0, 0), (9, 0, 0)]
def E_b48_0 : e2_E := [(2147483648, 2147583648, 0, 0), (2147483648, 2147483656, 1, 0), (2147483648, 2147483688, 2, 0), (2147483648, 2147483688, 3, 0), (2147483648, 2147483656, 4, 0)]
noncomputable def h_b48_0 : ev_H := (bn459 : e2_Q8)
noncomputable def cl_b48_e : List (Nat × e2_S) := [(28, e2_cutL (al_b48_0.set 5 (11, 2147483648, 2147483656)) 4 (E_b48_0.take 4) h_b48_0)]
set_option maxRecDepth 1000000 in
theorem ck_b48_e : e2_run (e2_cal S_b48 I_b48 4000 2) (e2_fin rs_b48) e2x_229 (e2_bpL cl_b48_e) (e2_cutA cl_b48_e) 4000 (e2_seek e2x_229 0) (e2_al 8 as_b48) [] E_b48 f_b48 = true := by decide +kernel
noncomputable def cl_b48_0 : List (Nat × e2_S) := [(28, e2_cutL (al_b48_0.set 5 (13, 12, 2147483656)) 4 (E_b48_0.take 4) h_b48_0)]
set_option maxRecDepth 1000000 in
theorem ck_b48_0 : e2_runM (e2_cal S_b48 I_b48 4000 2) (e2_fin rs_b48) e2x_229 (e2_bpL cl_b48_0) (e2_cutA cl_b48_0) 4000 (e2_seek e2x_229 28) al_b48_0 [] E_b48_0 h_b48_0 = true := by decide +kernel
set_option maxRecDepth 1000000 in
theorem ci_b48_0 : e2_idl 4 (al_b48_0.set 5 (9, 0, 0)) = true := by decide +kernel
set_option maxRecDepth 1000000 in
theorem cj_b48_0 : e2_idh 4 8 h_b48_0 = true := by decide +kernel
theorem cs_b48 (hen : en_ok) (l : Launch) : e2_smOk l 3 s_b48 := by
  refine e2_conG (H := 0) (n := 2) (C := evd_229) (S := S_b48) (I := I_b48) (fuel := 4000) hen ei_229 e2_fz (e2_fa ein_215 (e2_fa ein_216 (e2_fa ein_217 (e2_fa ein_225 (e2_fa ein_226 (e2_fa ein_227 (e2_fa ein_228 e2_fz))))))) (by decide) co_b48 fun M d _ hC hcall p e R s m args below meth c Q D cA A ads r0 ha hl0 => ?_
  have L_0 : e2_gdM M p l e R s m args below meth c Q D cA A ads r0 28 al_b48_0 [] E_b48_0 h_b48_0 := by
    refine e2_indL (u := 4) (j := 5) (lo := 2147483648) (hi := 2147483656) (b := 4) (dd := 0) hl0 (by decide) rfl rfl (Or.inr ⟨rfl, rfl⟩) rfl ci_b48_0 cj_b48_0 ?_
    intro r_0 k_0 hk_0 hp_0 hs_0 hn_0
    have hl_0 : r_0.length ≤ 5 := hs_0.len rfl
    have ha_0 := ha.ext hp_0
    exact e2_fromM hen ha_0 hcall (e2_cutA_ok (e2_fa (fun al st E h hc => hn_0 al st E h hc) e2_fz)) (hC [28]) (X := e2x_229) ex2_229 28 ck_b48_0
  have EN_0 := e2_entL (u := 4) (j := 5) (lo := 2147483648) (hi := 2147483656) hl0 rfl rfl rfl ci_b48_0 cj_b48_0 L_0
  exact e2_from hen ha hcall (e2_cutA_ok (e2_fa (fun al st E h hc => EN_0 al st E h hc) e2_fz)) (hC [28]) (X := e2x_229) ex2_229 0 ck_b48_e
/-! b49 X10_layFrom -/
def as_b49 : List ev_V := [(2, 83, 0), (0, 14, 0), (11, 2147483648, 2147483656), (11, 0, 4294967295)]
def E_b49 : e2_E := [(2147483648, 2147583648, 0, 0), (2147483648, 2147483656, 1, 0), (2147483648, 2147483688, 2, 0), (2147483648, 2147483688, 3, 0)]
noncomputable def f_b49 : ev_H := (bn459 : e2_Q8)
noncomputable def q_b49_0 : ev_H := (bn459 : e2_Q8)
noncomputable def rs_b49 : e2_Rs := [((9, 0, 0), q_b49_0)]
noncomputable def s_b49 : e2_Sm := (229, as_b49, E_b49, f_b49, rs_b49)
noncomputable def S_b49 : List e2_Sm := []
noncomputable def I_b49 : List e2_In := [(215, 2, e2x_215), (216, 1, e2x_216), (217, 1, e2x_217), (225, 5, e2x_225), (226, 3, e2x_226), (227, 2, e2x_227), (228, 3, e2x_228)]
set_option maxRecDepth 1000000 in
theorem co_b49 : e2_okSB E_b49.length as_b49 f_b49 rs_b49 = true := by decide +kernel
def al_b49_0 : List ev_V := [(2, 83, 0), (0, 14, 0), (11, 2147483648, 2147483656), (11, 0, 4294967295), (11, 2147483774, 2147483782), (1, 4, 4294967296), (9, 0, 0), (9, 0, 0)]
def E_b49_0 : e2_E := [(2147483648, 2147583648, 0, 0), (2147483648, 2147483656, 1, 0), (2147483648, 2147483688, 2, 0), (2147483648, 2147483688, 3, 0), (2147483648, 2147483656, 4, 0)]
noncomputable def h_b49_0 : ev_H := (bn459 : e2_Q8)
noncomputable def cl_b49_e : List (Nat × e2_S) := [(28, e2_cutL (al_b49_0.set 5 (11, 2147483648, 2147483656)) 4 (E_b49_0.take 4) h_b49_0)]
set_option maxRecDepth 1000000 in
theorem ck_b49_e : e2_run (e2_cal S_b49 I_b49 4000 2) (e2_fin rs_b49) e2x_229 (e2_bpL cl_b49_e) (e2_cutA cl_b49_e) 4000 (e2_seek e2x_229 0) (e2_al 8 as_b49) [] E_b49 f_b49 = true := by decide +kernel
noncomputable def cl_b49_0 : List (Nat × e2_S) := [(28, e2_cutL (al_b49_0.set 5 (13, 12, 2147483656)) 4 (E_b49_0.take 4) h_b49_0)]
set_option maxRecDepth 1000000 in
theorem ck_b49_0 : e2_runM (e2_cal S_b49 I_b49 4000 2) (e2_fin rs_b49) e2x_229 (e2_bpL cl_b49_0) (e2_cutA cl_b49_0) 4000 (e2_seek e2x_229 28) al_b49_0 [] E_b49_0 h_b49_0 = true := by decide +kernel
set_option maxRecDepth 1000000 in
theorem ci_b49_0 : e2_idl 4 (al_b49_0.set 5 (9, 0, 0)) = true := by decide +kernel
set_option maxRecDepth 1000000 in
theorem cj_b49_0 : e2_idh 4 8 h_b49_0 = true := by decide +kernel
theorem cs_b49 (hen : en_ok) (l : Launch) : e2_smOk l 3 s_b49 := by
  refine e2_conG (H := 0) (n := 2) (C := evd_229) (S := S_b49) (I := I_b49) (fuel := 4000) hen ei_229 e2_fz (e2_fa ein_215 (e2_fa ein_216 (e2_fa ein_217 (e2_fa ein_225 (e2_fa ein_226 (e2_fa ein_227 (e2_fa ein_228 e2_fz))))))) (by decide) co_b49 fun M d _ hC hcall p e R s m args below meth c Q D cA A ads r0 ha hl0 => ?_
  have L_0 : e2_gdM M p l e R s m args below meth c Q D cA A ads r0 28 al_b49_0 [] E_b49_0 h_b49_0 := by
    refine e2_indL (u := 4) (j := 5) (lo := 2147483648) (hi := 2147483656) (b := 4) (dd := 0) hl0 (by decide) rfl rfl (Or.inr ⟨rfl, rfl⟩) rfl ci_b49_0 cj_b49_0 ?_
    intro r_0 k_0 hk_0 hp_0 hs_0 hn_0
    have hl_0 : r_0.length ≤ 5 := hs_0.len rfl
    have ha_0 := ha.ext hp_0
    exact e2_fromM hen ha_0 hcall (e2_cutA_ok (e2_fa (fun al st E h hc => hn_0 al st E h hc) e2_fz)) (hC [28]) (X := e2x_229) ex2_229 28 ck_b49_0
  have EN_0 := e2_entL (u := 4) (j := 5) (lo := 2147483648) (hi := 2147483656) hl0 rfl rfl rfl ci_b49_0 cj_b49_0 L_0
  exact e2_from hen ha hcall (e2_cutA_ok (e2_fa (fun al st E h hc => EN_0 al st E h hc) e2_fz)) (hC [28]) (X := e2x_229) ex2_229 0 ck_b49_e
/-! b50 X10_layFrom -/
def as_b50 : List ev_V := [(2, 83, 0), (0, 13, 0), (11, 2147483648, 2147483656), (11, 0, 4294967295)]
def E_b50 : e2_E := [(2147483648, 2147583648, 0, 0), (2147483648, 2147483656, 1, 0), (2147483648, 2147483688, 2, 0), (2147483648, 2147483688, 3, 0)]
noncomputable def f_b50 : ev_H := (bn459 : e2_Q8)
noncomputable def q_b50_0 : ev_H := (bn459 : e2_Q8)
noncomputable def rs_b50 : e2_Rs := [((9, 0, 0), q_b50_0)]
noncomputable def s_b50 : e2_Sm := (229, as_b50, E_b50, f_b50, rs_b50)
noncomputable def S_b50 : List e2_Sm := []
noncomputable def I_b50 : List e2_In := [(215, 2, e2x_215), (216, 1, e2x_216), (217, 1, e2x_217), (225, 5, e2x_225), (226, 3, e2x_226), (227, 2, e2x_227), (228, 3, e2x_228)]
set_option maxRecDepth 1000000 in
theorem co_b50 : e2_okSB E_b50.length as_b50 f_b50 rs_b50 = true := by decide +kernel
def al_b50_0 : List ev_V := [(2, 83, 0), (0, 13, 0), (11, 2147483648, 2147483656), (11, 0, 4294967295), (11, 2147483765, 2147483773), (1, 4, 4294967296), (9, 0, 0), (9, 0, 0)]
def E_b50_0 : e2_E := [(2147483648, 2147583648, 0, 0), (2147483648, 2147483656, 1, 0), (2147483648, 2147483688, 2, 0), (2147483648, 2147483688, 3, 0), (2147483648, 2147483656, 4, 0)]
noncomputable def h_b50_0 : ev_H := (bn459 : e2_Q8)
noncomputable def cl_b50_e : List (Nat × e2_S) := [(28, e2_cutL (al_b50_0.set 5 (11, 2147483648, 2147483656)) 4 (E_b50_0.take 4) h_b50_0)]
set_option maxRecDepth 1000000 in
theorem ck_b50_e : e2_run (e2_cal S_b50 I_b50 4000 2) (e2_fin rs_b50) e2x_229 (e2_bpL cl_b50_e) (e2_cutA cl_b50_e) 4000 (e2_seek e2x_229 0) (e2_al 8 as_b50) [] E_b50 f_b50 = true := by decide +kernel
noncomputable def cl_b50_0 : List (Nat × e2_S) := [(28, e2_cutL (al_b50_0.set 5 (13, 12, 2147483656)) 4 (E_b50_0.take 4) h_b50_0)]
set_option maxRecDepth 1000000 in
theorem ck_b50_0 : e2_runM (e2_cal S_b50 I_b50 4000 2) (e2_fin rs_b50) e2x_229 (e2_bpL cl_b50_0) (e2_cutA cl_b50_0) 4000 (e2_seek e2x_229 28) al_b50_0 [] E_b50_0 h_b50_0 = true := by decide +kernel
set_option maxRecDepth 1000000 in
theorem ci_b50_0 : e2_idl 4 (al_b50_0.set 5 (9, 0, 0)) = true := by decide +kernel
set_option maxRecDepth 1000000 in
theorem cj_b50_0 : e2_idh 4 8 h_b50_0 = true := by decide +kernel
theorem cs_b50 (hen : en_ok) (l : Launch) : e2_smOk l 3 s_b50 := by
  refine e2_conG (H := 0) (n := 2) (C := evd_229) (S := S_b50) (I := I_b50) (fuel := 4000) hen ei_229 e2_fz (e2_fa ein_215 (e2_fa ein_216 (e2_fa ein_217 (e2_fa ein_225 (e2_fa ein_226 (e2_fa ein_227 (e2_fa ein_228 e2_fz))))))) (by decide) co_b50 fun M d _ hC hcall p e R s m args below meth c Q D cA A ads r0 ha hl0 => ?_
  have L_0 : e2_gdM M p l e R s m args below meth c Q D cA A ads r0 28 al_b50_0 [] E_b50_0 h_b50_0 := by
    refine e2_indL (u := 4) (j := 5) (lo := 2147483648) (hi := 2147483656) (b := 4) (dd := 0) hl0 (by decide) rfl rfl (Or.inr ⟨rfl, rfl⟩) rfl ci_b50_0 cj_b50_0 ?_
    intro r_0 k_0 hk_0 hp_0 hs_0 hn_0
    have hl_0 : r_0.length ≤ 5 := hs_0.len rfl
    have ha_0 := ha.ext hp_0
    exact e2_fromM hen ha_0 hcall (e2_cutA_ok (e2_fa (fun al st E h hc => hn_0 al st E h hc) e2_fz)) (hC [28]) (X := e2x_229) ex2_229 28 ck_b50_0
  have EN_0 := e2_entL (u := 4) (j := 5) (lo := 2147483648) (hi := 2147483656) hl0 rfl rfl rfl ci_b50_0 cj_b50_0 L_0
  exact e2_from hen ha hcall (e2_cutA_ok (e2_fa (fun al st E h hc => EN_0 al st E h hc) e2_fz)) (hC [28]) (X := e2x_229) ex2_229 0 ck_b50_e
/-! b51 X10_layFrom -/
def as_b51 : List ev_V := [(2, 83, 0), (0, 12, 0), (11, 2147483648, 2147483656), (11, 0, 4294967295)]
def E_b51 : e2_E := [(2147483648, 2147583648, 0, 0), (2147483648, 2147483656, 1, 0), (2147483648, 2147483688, 2, 0), (2147483648, 2147483688, 3, 0)]
noncomputable def f_b51 : ev_H := (bn459 : e2_Q8)
noncomputable def q_b51_0 : ev_H := (bn459 : e2_Q8)
noncomputable def rs_b51 : e2_Rs := [((9, 0, 0), q_b51_0)]
noncomputable def s_b51 : e2_Sm := (229, as_b51, E_b51, f_b51, rs_b51)
noncomputable def S_b51 : List e2_Sm := []
noncomputable def I_b51 : List e2_In := [(215, 2, e2x_215), (216, 1, e2x_216), (217, 1, e2x_217), (225, 5, e2x_225), (226, 3, e2x_226), (227, 2, e2x_227), (228, 3, e2x_228)]
set_option maxRecDepth 1000000 in
theorem co_b51 : e2_okSB E_b51.length as_b51 f_b51 rs_b51 = true := by decide +kernel
def al_b51_0 : List ev_V := [(2, 83, 0), (0, 12, 0), (11, 2147483648, 2147483656), (11, 0, 4294967295), (11, 2147483756, 2147483764), (1, 4, 4294967296), (9, 0, 0), (9, 0, 0)]
def E_b51_0 : e2_E := [(2147483648, 2147583648, 0, 0), (2147483648, 2147483656, 1, 0), (2147483648, 2147483688, 2, 0), (2147483648, 2147483688, 3, 0), (2147483648, 2147483656, 4, 0)]
noncomputable def h_b51_0 : ev_H := (bn459 : e2_Q8)
noncomputable def cl_b51_e : List (Nat × e2_S) := [(28, e2_cutL (al_b51_0.set 5 (11, 2147483648, 2147483656)) 4 (E_b51_0.take 4) h_b51_0)]
set_option maxRecDepth 1000000 in
theorem ck_b51_e : e2_run (e2_cal S_b51 I_b51 4000 2) (e2_fin rs_b51) e2x_229 (e2_bpL cl_b51_e) (e2_cutA cl_b51_e) 4000 (e2_seek e2x_229 0) (e2_al 8 as_b51) [] E_b51 f_b51 = true := by decide +kernel
noncomputable def cl_b51_0 : List (Nat × e2_S) := [(28, e2_cutL (al_b51_0.set 5 (13, 12, 2147483656)) 4 (E_b51_0.take 4) h_b51_0)]
set_option maxRecDepth 1000000 in
theorem ck_b51_0 : e2_runM (e2_cal S_b51 I_b51 4000 2) (e2_fin rs_b51) e2x_229 (e2_bpL cl_b51_0) (e2_cutA cl_b51_0) 4000 (e2_seek e2x_229 28) al_b51_0 [] E_b51_0 h_b51_0 = true := by decide +kernel
set_option maxRecDepth 1000000 in
theorem ci_b51_0 : e2_idl 4 (al_b51_0.set 5 (9, 0, 0)) = true := by decide +kernel
set_option maxRecDepth 1000000 in
theorem cj_b51_0 : e2_idh 4 8 h_b51_0 = true := by decide +kernel
theorem cs_b51 (hen : en_ok) (l : Launch) : e2_smOk l 3 s_b51 := by
  refine e2_conG (H := 0) (n := 2) (C := evd_229) (S := S_b51) (I := I_b51) (fuel := 4000) hen ei_229 e2_fz (e2_fa ein_215 (e2_fa ein_216 (e2_fa ein_217 (e2_fa ein_225 (e2_fa ein_226 (e2_fa ein_227 (e2_fa ein_228 e2_fz))))))) (by decide) co_b51 fun M d _ hC hcall p e R s m args below meth c Q D cA A ads r0 ha hl0 => ?_
  have L_0 : e2_gdM M p l e R s m args below meth c Q D cA A ads r0 28 al_b51_0 [] E_b51_0 h_b51_0 := by
    refine e2_indL (u := 4) (j := 5) (lo := 2147483648) (hi := 2147483656) (b := 4) (dd := 0) hl0 (by decide) rfl rfl (Or.inr ⟨rfl, rfl⟩) rfl ci_b51_0 cj_b51_0 ?_
    intro r_0 k_0 hk_0 hp_0 hs_0 hn_0
    have hl_0 : r_0.length ≤ 5 := hs_0.len rfl
    have ha_0 := ha.ext hp_0
    exact e2_fromM hen ha_0 hcall (e2_cutA_ok (e2_fa (fun al st E h hc => hn_0 al st E h hc) e2_fz)) (hC [28]) (X := e2x_229) ex2_229 28 ck_b51_0
  have EN_0 := e2_entL (u := 4) (j := 5) (lo := 2147483648) (hi := 2147483656) hl0 rfl rfl rfl ci_b51_0 cj_b51_0 L_0
  exact e2_from hen ha hcall (e2_cutA_ok (e2_fa (fun al st E h hc => EN_0 al st E h hc) e2_fz)) (hC [28]) (X := e2x_229) ex2_229 0 ck_b51_e
/-! b52 X10_layFrom -/
def as_b52 : List ev_V := [(2, 83, 0), (0, 11, 0), (11, 2147483648, 2147483656), (11, 0, 4294967295)]
def E_b52 : e2_E := [(2147483648, 2147583648, 0, 0), (2147483648, 2147483656, 1, 0), (2147483648, 2147483688, 2, 0), (2147483648, 2147483688, 3, 0)]
noncomputable def f_b52 : ev_H := (bn459 : e2_Q8)
noncomputable def q_b52_0 : ev_H := (bn459 : e2_Q8)
noncomputable def rs_b52 : e2_Rs := [((9, 0, 0), q_b52_0)]
noncomputable def s_b52 : e2_Sm := (229, as_b52, E_b52, f_b52, rs_b52)
noncomputable def S_b52 : List e2_Sm := []
noncomputable def I_b52 : List e2_In := [(215, 2, e2x_215), (216, 1, e2x_216), (217, 1, e2x_217), (225, 5, e2x_225), (226, 3, e2x_226), (227, 2, e2x_227), (228, 3, e2x_228)]
set_option maxRecDepth 1000000 in
theorem co_b52 : e2_okSB E_b52.length as_b52 f_b52 rs_b52 = true := by decide +kernel
def al_b52_0 : List ev_V := [(2, 83, 0), (0, 11, 0), (11, 2147483648, 2147483656), (11, 0, 4294967295), (11, 2147483747, 2147483755), (1, 4, 4294967296), (9, 0, 0), (9, 0, 0)]
def E_b52_0 : e2_E := [(2147483648, 2147583648, 0, 0), (2147483648, 2147483656, 1, 0), (2147483648, 2147483688, 2, 0), (2147483648, 2147483688, 3, 0), (2147483648, 2147483656, 4, 0)]
noncomputable def h_b52_0 : ev_H := (bn459 : e2_Q8)
noncomputable def cl_b52_e : List (Nat × e2_S) := [(28, e2_cutL (al_b52_0.set 5 (11, 2147483648, 2147483656)) 4 (E_b52_0.take 4) h_b52_0)]
set_option maxRecDepth 1000000 in
theorem ck_b52_e : e2_run (e2_cal S_b52 I_b52 4000 2) (e2_fin rs_b52) e2x_229 (e2_bpL cl_b52_e) (e2_cutA cl_b52_e) 4000 (e2_seek e2x_229 0) (e2_al 8 as_b52) [] E_b52 f_b52 = true := by decide +kernel
noncomputable def cl_b52_0 : List (Nat × e2_S) := [(28, e2_cutL (al_b52_0.set 5 (13, 12, 2147483656)) 4 (E_b52_0.take 4) h_b52_0)]
set_option maxRecDepth 1000000 in
theorem ck_b52_0 : e2_runM (e2_cal S_b52 I_b52 4000 2) (e2_fin rs_b52) e2x_229 (e2_bpL cl_b52_0) (e2_cutA cl_b52_0) 4000 (e2_seek e2x_229 28) al_b52_0 [] E_b52_0 h_b52_0 = true := by decide +kernel
set_option maxRecDepth 1000000 in
theorem ci_b52_0 : e2_idl 4 (al_b52_0.set 5 (9, 0, 0)) = true := by decide +kernel
set_option maxRecDepth 1000000 in
theorem cj_b52_0 : e2_idh 4 8 h_b52_0 = true := by decide +kernel
theorem cs_b52 (hen : en_ok) (l : Launch) : e2_smOk l 3 s_b52 := by
  refine e2_conG (H := 0) (n := 2) (C := evd_229) (S := S_b52) (I := I_b52) (fuel := 4000) hen ei_229 e2_fz (e2_fa ein_215 (e2_fa ein_216 (e2_fa ein_217 (e2_fa ein_225 (e2_fa ein_226 (e2_fa ein_227 (e2_fa ein_228 e2_fz))))))) (by decide) co_b52 fun M d _ hC hcall p e R s m args below meth c Q D cA A ads r0 ha hl0 => ?_
  have L_0 : e2_gdM M p l e R s m args below meth c Q D cA A ads r0 28 al_b52_0 [] E_b52_0 h_b52_0 := by
    refine e2_indL (u := 4) (j := 5) (lo := 2147483648) (hi := 2147483656) (b := 4) (dd := 0) hl0 (by decide) rfl rfl (Or.inr ⟨rfl, rfl⟩) rfl ci_b52_0 cj_b52_0 ?_
    intro r_0 k_0 hk_0 hp_0 hs_0 hn_0
    have hl_0 : r_0.length ≤ 5 := hs_0.len rfl
    have ha_0 := ha.ext hp_0
    exact e2_fromM hen ha_0 hcall (e2_cutA_ok (e2_fa (fun al st E h hc => hn_0 al st E h hc) e2_fz)) (hC [28]) (X := e2x_229) ex2_229 28 ck_b52_0
  have EN_0 := e2_entL (u := 4) (j := 5) (lo := 2147483648) (hi := 2147483656) hl0 rfl rfl rfl ci_b52_0 cj_b52_0 L_0
  exact e2_from hen ha hcall (e2_cutA_ok (e2_fa (fun al st E h hc => EN_0 al st E h hc) e2_fz)) (hC [28]) (X := e2x_229) ex2_229 0 ck_b52_e
/-! b53 X10_layFrom -/
def as_b53 : List ev_V := [(2, 83, 0), (0, 10, 0), (11, 2147483648, 2147483656), (11, 0, 4294967295)]
def E_b53 : e2_E := [(2147483648, 2147583648, 0, 0), (2147483648, 2147483656, 1, 0), (2147483648, 2147483688, 2, 0), (2147483648, 2147483688, 3, 0)]
noncomputable def f_b53 : ev_H := (bn459 : e2_Q8)
noncomputable def q_b53_0 : ev_H := (bn459 : e2_Q8)
noncomputable def rs_b53 : e2_Rs := [((9, 0, 0), q_b53_0)]
noncomputable def s_b53 : e2_Sm := (229, as_b53, E_b53, f_b53, rs_b53)
noncomputable def S_b53 : List e2_Sm := []
noncomputable def I_b53 : List e2_In := [(215, 2, e2x_215), (216, 1, e2x_216), (217, 1, e2x_217), (225, 5, e2x_225), (226, 3, e2x_226), (227, 2, e2x_227), (228, 3, e2x_228)]
set_option maxRecDepth 1000000 in
theorem co_b53 : e2_okSB E_b53.length as_b53 f_b53 rs_b53 = true := by decide +kernel
def al_b53_0 : List ev_V := [(2, 83, 0), (0, 10, 0), (11, 2147483648, 2147483656), (11, 0, 4294967295), (11, 2147483738, 2147483746), (1, 4, 4294967296), (9, 0, 0), (9, 0, 0)]
def E_b53_0 : e2_E := [(2147483648, 2147583648, 0, 0), (2147483648, 2147483656, 1, 0), (2147483648, 2147483688, 2, 0), (2147483648, 2147483688, 3, 0), (2147483648, 2147483656, 4, 0)]
noncomputable def h_b53_0 : ev_H := (bn459 : e2_Q8)
noncomputable def cl_b53_e : List (Nat × e2_S) := [(28, e2_cutL (al_b53_0.set 5 (11, 2147483648, 2147483656)) 4 (E_b53_0.take 4) h_b53_0)]
set_option maxRecDepth 1000000 in
theorem ck_b53_e : e2_run (e2_cal S_b53 I_b53 4000 2) (e2_fin rs_b53) e2x_229 (e2_bpL cl_b53_e) (e2_cutA cl_b53_e) 4000 (e2_seek e2x_229 0) (e2_al 8 as_b53) [] E_b53 f_b53 = true := by decide +kernel
noncomputable def cl_b53_0 : List (Nat × e2_S) := [(28, e2_cutL (al_b53_0.set 5 (13, 12, 2147483656)) 4 (E_b53_0.take 4) h_b53_0)]
set_option maxRecDepth 1000000 in
theorem ck_b53_0 : e2_runM (e2_cal S_b53 I_b53 4000 2) (e2_fin rs_b53) e2x_229 (e2_bpL cl_b53_0) (e2_cutA cl_b53_0) 4000 (e2_seek e2x_229 28) al_b53_0 [] E_b53_0 h_b53_0 = true := by decide +kernel
set_option maxRecDepth 1000000 in
theorem ci_b53_0 : e2_idl 4 (al_b53_0.set 5 (9, 0, 0)) = true := by decide +kernel
set_option maxRecDepth 1000000 in
theorem cj_b53_0 : e2_idh 4 8 h_b53_0 = true := by decide +kernel
theorem cs_b53 (hen : en_ok) (l : Launch) : e2_smOk l 3 s_b53 := by
  refine e2_conG (H := 0) (n := 2) (C := evd_229) (S := S_b53) (I := I_b53) (fuel := 4000) hen ei_229 e2_fz (e2_fa ein_215 (e2_fa ein_216 (e2_fa ein_217 (e2_fa ein_225 (e2_fa ein_226 (e2_fa ein_227 (e2_fa ein_228 e2_fz))))))) (by decide) co_b53 fun M d _ hC hcall p e R s m args below meth c Q D cA A ads r0 ha hl0 => ?_
  have L_0 : e2_gdM M p l e R s m args below meth c Q D cA A ads r0 28 al_b53_0 [] E_b53_0 h_b53_0 := by
    refine e2_indL (u := 4) (j := 5) (lo := 2147483648) (hi := 2147483656) (b := 4) (dd := 0) hl0 (by decide) rfl rfl (Or.inr ⟨rfl, rfl⟩) rfl ci_b53_0 cj_b53_0 ?_
    intro r_0 k_0 hk_0 hp_0 hs_0 hn_0
    have hl_0 : r_0.length ≤ 5 := hs_0.len rfl
    have ha_0 := ha.ext hp_0
    exact e2_fromM hen ha_0 hcall (e2_cutA_ok (e2_fa (fun al st E h hc => hn_0 al st E h hc) e2_fz)) (hC [28]) (X := e2x_229) ex2_229 28 ck_b53_0
  have EN_0 := e2_entL (u := 4) (j := 5) (lo := 2147483648) (hi := 2147483656) hl0 rfl rfl rfl ci_b53_0 cj_b53_0 L_0
  exact e2_from hen ha hcall (e2_cutA_ok (e2_fa (fun al st E h hc => EN_0 al st E h hc) e2_fz)) (hC [28]) (X := e2x_229) ex2_229 0 ck_b53_e
/-! b54 X10_layFrom -/
def as_b54 : List ev_V := [(2, 83, 0), (0, 9, 0), (11, 2147483648, 2147483656), (11, 0, 4294967295)]
def E_b54 : e2_E := [(2147483648, 2147583648, 0, 0), (2147483648, 2147483656, 1, 0), (2147483648, 2147483688, 2, 0), (2147483648, 2147483688, 3, 0)]
noncomputable def f_b54 : ev_H := (bn459 : e2_Q8)
noncomputable def q_b54_0 : ev_H := (bn459 : e2_Q8)
noncomputable def rs_b54 : e2_Rs := [((9, 0, 0), q_b54_0)]
noncomputable def s_b54 : e2_Sm := (229, as_b54, E_b54, f_b54, rs_b54)
noncomputable def S_b54 : List e2_Sm := []
noncomputable def I_b54 : List e2_In := [(215, 2, e2x_215), (216, 1, e2x_216), (217, 1, e2x_217), (225, 5, e2x_225), (226, 3, e2x_226), (227, 2, e2x_227), (228, 3, e2x_228)]
set_option maxRecDepth 1000000 in
theorem co_b54 : e2_okSB E_b54.length as_b54 f_b54 rs_b54 = true := by decide +kernel
def al_b54_0 : List ev_V := [(2, 83, 0), (0, 9, 0), (11, 2147483648, 2147483656), (11, 0, 4294967295), (11, 2147483729, 2147483737), (1, 4, 4294967296), (9, 0, 0), (9, 0, 0)]
def E_b54_0 : e2_E := [(2147483648, 2147583648, 0, 0), (2147483648, 2147483656, 1, 0), (2147483648, 2147483688, 2, 0), (2147483648, 2147483688, 3, 0), (2147483648, 2147483656, 4, 0)]
noncomputable def h_b54_0 : ev_H := (bn459 : e2_Q8)
noncomputable def cl_b54_e : List (Nat × e2_S) := [(28, e2_cutL (al_b54_0.set 5 (11, 2147483648, 2147483656)) 4 (E_b54_0.take 4) h_b54_0)]
set_option maxRecDepth 1000000 in
theorem ck_b54_e : e2_run (e2_cal S_b54 I_b54 4000 2) (e2_fin rs_b54) e2x_229 (e2_bpL cl_b54_e) (e2_cutA cl_b54_e) 4000 (e2_seek e2x_229 0) (e2_al 8 as_b54) [] E_b54 f_b54 = true := by decide +kernel
noncomputable def cl_b54_0 : List (Nat × e2_S) := [(28, e2_cutL (al_b54_0.set 5 (13, 12, 2147483656)) 4 (E_b54_0.take 4) h_b54_0)]
set_option maxRecDepth 1000000 in
theorem ck_b54_0 : e2_runM (e2_cal S_b54 I_b54 4000 2) (e2_fin rs_b54) e2x_229 (e2_bpL cl_b54_0) (e2_cutA cl_b54_0) 4000 (e2_seek e2x_229 28) al_b54_0 [] E_b54_0 h_b54_0 = true := by decide +kernel
set_option maxRecDepth 1000000 in
theorem ci_b54_0 : e2_idl 4 (al_b54_0.set 5 (9, 0, 0)) = true := by decide +kernel
set_option maxRecDepth 1000000 in
theorem cj_b54_0 : e2_idh 4 8 h_b54_0 = true := by decide +kernel
theorem cs_b54 (hen : en_ok) (l : Launch) : e2_smOk l 3 s_b54 := by
  refine e2_conG (H := 0) (n := 2) (C := evd_229) (S := S_b54) (I := I_b54) (fuel := 4000) hen ei_229 e2_fz (e2_fa ein_215 (e2_fa ein_216 (e2_fa ein_217 (e2_fa ein_225 (e2_fa ein_226 (e2_fa ein_227 (e2_fa ein_228 e2_fz))))))) (by decide) co_b54 fun M d _ hC hcall p e R s m args below meth c Q D cA A ads r0 ha hl0 => ?_
  have L_0 : e2_gdM M p l e R s m args below meth c Q D cA A ads r0 28 al_b54_0 [] E_b54_0 h_b54_0 := by
    refine e2_indL (u := 4) (j := 5) (lo := 2147483648) (hi := 2147483656) (b := 4) (dd := 0) hl0 (by decide) rfl rfl (Or.inr ⟨rfl, rfl⟩) rfl ci_b54_0 cj_b54_0 ?_
    intro r_0 k_0 hk_0 hp_0 hs_0 hn_0
    have hl_0 : r_0.length ≤ 5 := hs_0.len rfl
    have ha_0 := ha.ext hp_0
    exact e2_fromM hen ha_0 hcall (e2_cutA_ok (e2_fa (fun al st E h hc => hn_0 al st E h hc) e2_fz)) (hC [28]) (X := e2x_229) ex2_229 28 ck_b54_0
  have EN_0 := e2_entL (u := 4) (j := 5) (lo := 2147483648) (hi := 2147483656) hl0 rfl rfl rfl ci_b54_0 cj_b54_0 L_0
  exact e2_from hen ha hcall (e2_cutA_ok (e2_fa (fun al st E h hc => EN_0 al st E h hc) e2_fz)) (hC [28]) (X := e2x_229) ex2_229 0 ck_b54_e
/-! b55 X10_layFrom -/
def as_b55 : List ev_V := [(2, 83, 0), (0, 8, 0), (11, 2147483648, 2147483656), (11, 0, 4294967295)]
def E_b55 : e2_E := [(2147483648, 2147583648, 0, 0), (2147483648, 2147483656, 1, 0), (2147483648, 2147483688, 2, 0), (2147483648, 2147483688, 3, 0)]
noncomputable def f_b55 : ev_H := (bn459 : e2_Q8)
noncomputable def q_b55_0 : ev_H := (bn459 : e2_Q8)
noncomputable def rs_b55 : e2_Rs := [((9, 0, 0), q_b55_0)]
noncomputable def s_b55 : e2_Sm := (229, as_b55, E_b55, f_b55, rs_b55)
noncomputable def S_b55 : List e2_Sm := []
noncomputable def I_b55 : List e2_In := [(215, 2, e2x_215), (216, 1, e2x_216), (217, 1, e2x_217), (225, 5, e2x_225), (226, 3, e2x_226), (227, 2, e2x_227), (228, 3, e2x_228)]
set_option maxRecDepth 1000000 in
theorem co_b55 : e2_okSB E_b55.length as_b55 f_b55 rs_b55 = true := by decide +kernel
def al_b55_0 : List ev_V := [(2, 83, 0), (0, 8, 0), (11, 2147483648, 2147483656), (11, 0, 4294967295), (11, 2147483720, 2147483728), (1, 4, 4294967296), (9, 0, 0), (9, 0, 0)]
def E_b55_0 : e2_E := [(2147483648, 2147583648, 0, 0), (2147483648, 2147483656, 1, 0), (2147483648, 2147483688, 2, 0), (2147483648, 2147483688, 3, 0), (2147483648, 2147483656, 4, 0)]
noncomputable def h_b55_0 : ev_H := (bn459 : e2_Q8)
noncomputable def cl_b55_e : List (Nat × e2_S) := [(28, e2_cutL (al_b55_0.set 5 (11, 2147483648, 2147483656)) 4 (E_b55_0.take 4) h_b55_0)]
set_option maxRecDepth 1000000 in
theorem ck_b55_e : e2_run (e2_cal S_b55 I_b55 4000 2) (e2_fin rs_b55) e2x_229 (e2_bpL cl_b55_e) (e2_cutA cl_b55_e) 4000 (e2_seek e2x_229 0) (e2_al 8 as_b55) [] E_b55 f_b55 = true := by decide +kernel
noncomputable def cl_b55_0 : List (Nat × e2_S) := [(28, e2_cutL (al_b55_0.set 5 (13, 12, 2147483656)) 4 (E_b55_0.take 4) h_b55_0)]
set_option maxRecDepth 1000000 in
theorem ck_b55_0 : e2_runM (e2_cal S_b55 I_b55 4000 2) (e2_fin rs_b55) e2x_229 (e2_bpL cl_b55_0) (e2_cutA cl_b55_0) 4000 (e2_seek e2x_229 28) al_b55_0 [] E_b55_0 h_b55_0 = true := by decide +kernel
set_option maxRecDepth 1000000 in
theorem ci_b55_0 : e2_idl 4 (al_b55_0.set 5 (9, 0, 0)) = true := by decide +kernel
set_option maxRecDepth 1000000 in
theorem cj_b55_0 : e2_idh 4 8 h_b55_0 = true := by decide +kernel
theorem cs_b55 (hen : en_ok) (l : Launch) : e2_smOk l 3 s_b55 := by
  refine e2_conG (H := 0) (n := 2) (C := evd_229) (S := S_b55) (I := I_b55) (fuel := 4000) hen ei_229 e2_fz (e2_fa ein_215 (e2_fa ein_216 (e2_fa ein_217 (e2_fa ein_225 (e2_fa ein_226 (e2_fa ein_227 (e2_fa ein_228 e2_fz))))))) (by decide) co_b55 fun M d _ hC hcall p e R s m args below meth c Q D cA A ads r0 ha hl0 => ?_
  have L_0 : e2_gdM M p l e R s m args below meth c Q D cA A ads r0 28 al_b55_0 [] E_b55_0 h_b55_0 := by
    refine e2_indL (u := 4) (j := 5) (lo := 2147483648) (hi := 2147483656) (b := 4) (dd := 0) hl0 (by decide) rfl rfl (Or.inr ⟨rfl, rfl⟩) rfl ci_b55_0 cj_b55_0 ?_
    intro r_0 k_0 hk_0 hp_0 hs_0 hn_0
    have hl_0 : r_0.length ≤ 5 := hs_0.len rfl
    have ha_0 := ha.ext hp_0
    exact e2_fromM hen ha_0 hcall (e2_cutA_ok (e2_fa (fun al st E h hc => hn_0 al st E h hc) e2_fz)) (hC [28]) (X := e2x_229) ex2_229 28 ck_b55_0
  have EN_0 := e2_entL (u := 4) (j := 5) (lo := 2147483648) (hi := 2147483656) hl0 rfl rfl rfl ci_b55_0 cj_b55_0 L_0
  exact e2_from hen ha hcall (e2_cutA_ok (e2_fa (fun al st E h hc => EN_0 al st E h hc) e2_fz)) (hC [28]) (X := e2x_229) ex2_229 0 ck_b55_e
/-! b56 X10_layFrom -/
def as_b56 : List ev_V := [(2, 83, 0), (0, 7, 0), (11, 2147483648, 2147483656), (11, 0, 4294967295)]
def E_b56 : e2_E := [(2147483648, 2147583648, 0, 0), (2147483648, 2147483656, 1, 0), (2147483648, 2147483688, 2, 0), (2147483648, 2147483688, 3, 0)]
noncomputable def f_b56 : ev_H := (bn459 : e2_Q8)
noncomputable def q_b56_0 : ev_H := (bn459 : e2_Q8)
noncomputable def rs_b56 : e2_Rs := [((9, 0, 0), q_b56_0)]
noncomputable def s_b56 : e2_Sm := (229, as_b56, E_b56, f_b56, rs_b56)
noncomputable def S_b56 : List e2_Sm := []
noncomputable def I_b56 : List e2_In := [(215, 2, e2x_215), (216, 1, e2x_216), (217, 1, e2x_217), (225, 5, e2x_225), (226, 3, e2x_226), (227, 2, e2x_227), (228, 3, e2x_228)]
set_option maxRecDepth 1000000 in
theorem co_b56 : e2_okSB E_b56.length as_b56 f_b56 rs_b56 = true := by decide +kernel
def al_b56_0 : List ev_V := [(2, 83, 0), (0, 7, 0), (11, 2147483648, 2147483656), (11, 0, 4294967295), (11, 2147483711, 2147483719), (1, 4, 4294967296), (9, 0, 0), (9, 0, 0)]
def E_b56_0 : e2_E := [(2147483648, 2147583648, 0, 0), (2147483648, 2147483656, 1, 0), (2147483648, 2147483688, 2, 0), (2147483648, 2147483688, 3, 0), (2147483648, 2147483656, 4, 0)]
noncomputable def h_b56_0 : ev_H := (bn459 : e2_Q8)
noncomputable def cl_b56_e : List (Nat × e2_S) := [(28, e2_cutL (al_b56_0.set 5 (11, 2147483648, 2147483656)) 4 (E_b56_0.take 4) h_b56_0)]
set_option maxRecDepth 1000000 in
theorem ck_b56_e : e2_run (e2_cal S_b56 I_b56 4000 2) (e2_fin rs_b56) e2x_229 (e2_bpL cl_b56_e) (e2_cutA cl_b56_e) 4000 (e2_seek e2x_229 0) (e2_al 8 as_b56) [] E_b56 f_b56 = true := by decide +kernel
noncomputable def cl_b56_0 : List (Nat × e2_S) := [(28, e2_cutL (al_b56_0.set 5 (13, 12, 2147483656)) 4 (E_b56_0.take 4) h_b56_0)]
set_option maxRecDepth 1000000 in
theorem ck_b56_0 : e2_runM (e2_cal S_b56 I_b56 4000 2) (e2_fin rs_b56) e2x_229 (e2_bpL cl_b56_0) (e2_cutA cl_b56_0) 4000 (e2_seek e2x_229 28) al_b56_0 [] E_b56_0 h_b56_0 = true := by decide +kernel
set_option maxRecDepth 1000000 in
theorem ci_b56_0 : e2_idl 4 (al_b56_0.set 5 (9, 0, 0)) = true := by decide +kernel
set_option maxRecDepth 1000000 in
theorem cj_b56_0 : e2_idh 4 8 h_b56_0 = true := by decide +kernel
theorem cs_b56 (hen : en_ok) (l : Launch) : e2_smOk l 3 s_b56 := by
  refine e2_conG (H := 0) (n := 2) (C := evd_229) (S := S_b56) (I := I_b56) (fuel := 4000) hen ei_229 e2_fz (e2_fa ein_215 (e2_fa ein_216 (e2_fa ein_217 (e2_fa ein_225 (e2_fa ein_226 (e2_fa ein_227 (e2_fa ein_228 e2_fz))))))) (by decide) co_b56 fun M d _ hC hcall p e R s m args below meth c Q D cA A ads r0 ha hl0 => ?_
  have L_0 : e2_gdM M p l e R s m args below meth c Q D cA A ads r0 28 al_b56_0 [] E_b56_0 h_b56_0 := by
    refine e2_indL (u := 4) (j := 5) (lo := 2147483648) (hi := 2147483656) (b := 4) (dd := 0) hl0 (by decide) rfl rfl (Or.inr ⟨rfl, rfl⟩) rfl ci_b56_0 cj_b56_0 ?_
    intro r_0 k_0 hk_0 hp_0 hs_0 hn_0
    have hl_0 : r_0.length ≤ 5 := hs_0.len rfl
    have ha_0 := ha.ext hp_0
    exact e2_fromM hen ha_0 hcall (e2_cutA_ok (e2_fa (fun al st E h hc => hn_0 al st E h hc) e2_fz)) (hC [28]) (X := e2x_229) ex2_229 28 ck_b56_0
  have EN_0 := e2_entL (u := 4) (j := 5) (lo := 2147483648) (hi := 2147483656) hl0 rfl rfl rfl ci_b56_0 cj_b56_0 L_0
  exact e2_from hen ha hcall (e2_cutA_ok (e2_fa (fun al st E h hc => EN_0 al st E h hc) e2_fz)) (hC [28]) (X := e2x_229) ex2_229 0 ck_b56_e
/-! b57 X10_layFrom -/
def as_b57 : List ev_V := [(2, 83, 0), (0, 6, 0), (11, 2147483648, 2147483656), (11, 0, 4294967295)]
def E_b57 : e2_E := [(2147483648, 2147583648, 0, 0), (2147483648, 2147483656, 1, 0), (2147483648, 2147483688, 2, 0), (2147483648, 2147483688, 3, 0)]
noncomputable def f_b57 : ev_H := (bn459 : e2_Q8)
noncomputable def q_b57_0 : ev_H := (bn459 : e2_Q8)
noncomputable def rs_b57 : e2_Rs := [((9, 0, 0), q_b57_0)]
noncomputable def s_b57 : e2_Sm := (229, as_b57, E_b57, f_b57, rs_b57)
noncomputable def S_b57 : List e2_Sm := []
noncomputable def I_b57 : List e2_In := [(215, 2, e2x_215), (216, 1, e2x_216), (217, 1, e2x_217), (225, 5, e2x_225), (226, 3, e2x_226), (227, 2, e2x_227), (228, 3, e2x_228)]
set_option maxRecDepth 1000000 in
theorem co_b57 : e2_okSB E_b57.length as_b57 f_b57 rs_b57 = true := by decide +kernel
def al_b57_0 : List ev_V := [(2, 83, 0), (0, 6, 0), (11, 2147483648, 2147483656), (11, 0, 4294967295), (11, 2147483702, 2147483710), (1, 4, 4294967296), (9, 0, 0), (9, 0, 0)]
def E_b57_0 : e2_E := [(2147483648, 2147583648, 0, 0), (2147483648, 2147483656, 1, 0), (2147483648, 2147483688, 2, 0), (2147483648, 2147483688, 3, 0), (2147483648, 2147483656, 4, 0)]
noncomputable def h_b57_0 : ev_H := (bn459 : e2_Q8)
noncomputable def cl_b57_e : List (Nat × e2_S) := [(28, e2_cutL (al_b57_0.set 5 (11, 2147483648, 2147483656)) 4 (E_b57_0.take 4) h_b57_0)]
set_option maxRecDepth 1000000 in
theorem ck_b57_e : e2_run (e2_cal S_b57 I_b57 4000 2) (e2_fin rs_b57) e2x_229 (e2_bpL cl_b57_e) (e2_cutA cl_b57_e) 4000 (e2_seek e2x_229 0) (e2_al 8 as_b57) [] E_b57 f_b57 = true := by decide +kernel
noncomputable def cl_b57_0 : List (Nat × e2_S) := [(28, e2_cutL (al_b57_0.set 5 (13, 12, 2147483656)) 4 (E_b57_0.take 4) h_b57_0)]
set_option maxRecDepth 1000000 in
theorem ck_b57_0 : e2_runM (e2_cal S_b57 I_b57 4000 2) (e2_fin rs_b57) e2x_229 (e2_bpL cl_b57_0) (e2_cutA cl_b57_0) 4000 (e2_seek e2x_229 28) al_b57_0 [] E_b57_0 h_b57_0 = true := by decide +kernel
set_option maxRecDepth 1000000 in
theorem ci_b57_0 : e2_idl 4 (al_b57_0.set 5 (9, 0, 0)) = true := by decide +kernel
set_option maxRecDepth 1000000 in
theorem cj_b57_0 : e2_idh 4 8 h_b57_0 = true := by decide +kernel
theorem cs_b57 (hen : en_ok) (l : Launch) : e2_smOk l 3 s_b57 := by
  refine e2_conG (H := 0) (n := 2) (C := evd_229) (S := S_b57) (I := I_b57) (fuel := 4000) hen ei_229 e2_fz (e2_fa ein_215 (e2_fa ein_216 (e2_fa ein_217 (e2_fa ein_225 (e2_fa ein_226 (e2_fa ein_227 (e2_fa ein_228 e2_fz))))))) (by decide) co_b57 fun M d _ hC hcall p e R s m args below meth c Q D cA A ads r0 ha hl0 => ?_
  have L_0 : e2_gdM M p l e R s m args below meth c Q D cA A ads r0 28 al_b57_0 [] E_b57_0 h_b57_0 := by
    refine e2_indL (u := 4) (j := 5) (lo := 2147483648) (hi := 2147483656) (b := 4) (dd := 0) hl0 (by decide) rfl rfl (Or.inr ⟨rfl, rfl⟩) rfl ci_b57_0 cj_b57_0 ?_
    intro r_0 k_0 hk_0 hp_0 hs_0 hn_0
    have hl_0 : r_0.length ≤ 5 := hs_0.len rfl
    have ha_0 := ha.ext hp_0
    exact e2_fromM hen ha_0 hcall (e2_cutA_ok (e2_fa (fun al st E h hc => hn_0 al st E h hc) e2_fz)) (hC [28]) (X := e2x_229) ex2_229 28 ck_b57_0
  have EN_0 := e2_entL (u := 4) (j := 5) (lo := 2147483648) (hi := 2147483656) hl0 rfl rfl rfl ci_b57_0 cj_b57_0 L_0
  exact e2_from hen ha hcall (e2_cutA_ok (e2_fa (fun al st E h hc => EN_0 al st E h hc) e2_fz)) (hC [28]) (X := e2x_229) ex2_229 0 ck_b57_e
/-! b58 X10_layFrom -/
def as_b58 : List ev_V := [(2, 83, 0), (0, 5, 0), (11, 2147483648, 2147483656), (11, 0, 4294967295)]
def E_b58 : e2_E := [(2147483648, 2147583648, 0, 0), (2147483648, 2147483656, 1, 0), (2147483648, 2147483688, 2, 0), (2147483648, 2147483688, 3, 0)]
noncomputable def f_b58 : ev_H := (bn459 : e2_Q8)
noncomputable def q_b58_0 : ev_H := (bn459 : e2_Q8)
noncomputable def rs_b58 : e2_Rs := [((9, 0, 0), q_b58_0)]
noncomputable def s_b58 : e2_Sm := (229, as_b58, E_b58, f_b58, rs_b58)
noncomputable def S_b58 : List e2_Sm := []
noncomputable def I_b58 : List e2_In := [(215, 2, e2x_215), (216, 1, e2x_216), (217, 1, e2x_217), (225, 5, e2x_225), (226, 3, e2x_226), (227, 2, e2x_227), (228, 3, e2x_228)]
set_option maxRecDepth 1000000 in
theorem co_b58 : e2_okSB E_b58.length as_b58 f_b58 rs_b58 = true := by decide +kernel
def al_b58_0 : List ev_V := [(2, 83, 0), (0, 5, 0), (11, 2147483648, 2147483656), (11, 0, 4294967295), (11, 2147483693, 2147483701), (1, 4, 4294967296), (9, 0, 0), (9, 0, 0)]
def E_b58_0 : e2_E := [(2147483648, 2147583648, 0, 0), (2147483648, 2147483656, 1, 0), (2147483648, 2147483688, 2, 0), (2147483648, 2147483688, 3, 0), (2147483648, 2147483656, 4, 0)]
noncomputable def h_b58_0 : ev_H := (bn459 : e2_Q8)
noncomputable def cl_b58_e : List (Nat × e2_S) := [(28, e2_cutL (al_b58_0.set 5 (11, 2147483648, 2147483656)) 4 (E_b58_0.take 4) h_b58_0)]
set_option maxRecDepth 1000000 in
theorem ck_b58_e : e2_run (e2_cal S_b58 I_b58 4000 2) (e2_fin rs_b58) e2x_229 (e2_bpL cl_b58_e) (e2_cutA cl_b58_e) 4000 (e2_seek e2x_229 0) (e2_al 8 as_b58) [] E_b58 f_b58 = true := by decide +kernel
noncomputable def cl_b58_0 : List (Nat × e2_S) := [(28, e2_cutL (al_b58_0.set 5 (13, 12, 2147483656)) 4 (E_b58_0.take 4) h_b58_0)]
set_option maxRecDepth 1000000 in
theorem ck_b58_0 : e2_runM (e2_cal S_b58 I_b58 4000 2) (e2_fin rs_b58) e2x_229 (e2_bpL cl_b58_0) (e2_cutA cl_b58_0) 4000 (e2_seek e2x_229 28) al_b58_0 [] E_b58_0 h_b58_0 = true := by decide +kernel
set_option maxRecDepth 1000000 in
theorem ci_b58_0 : e2_idl 4 (al_b58_0.set 5 (9, 0, 0)) = true := by decide +kernel
set_option maxRecDepth 1000000 in
theorem cj_b58_0 : e2_idh 4 8 h_b58_0 = true := by decide +kernel
theorem cs_b58 (hen : en_ok) (l : Launch) : e2_smOk l 3 s_b58 := by
  refine e2_conG (H := 0) (n := 2) (C := evd_229) (S := S_b58) (I := I_b58) (fuel := 4000) hen ei_229 e2_fz (e2_fa ein_215 (e2_fa ein_216 (e2_fa ein_217 (e2_fa ein_225 (e2_fa ein_226 (e2_fa ein_227 (e2_fa ein_228 e2_fz))))))) (by decide) co_b58 fun M d _ hC hcall p e R s m args below meth c Q D cA A ads r0 ha hl0 => ?_
  have L_0 : e2_gdM M p l e R s m args below meth c Q D cA A ads r0 28 al_b58_0 [] E_b58_0 h_b58_0 := by
    refine e2_indL (u := 4) (j := 5) (lo := 2147483648) (hi := 2147483656) (b := 4) (dd := 0) hl0 (by decide) rfl rfl (Or.inr ⟨rfl, rfl⟩) rfl ci_b58_0 cj_b58_0 ?_
    intro r_0 k_0 hk_0 hp_0 hs_0 hn_0
    have hl_0 : r_0.length ≤ 5 := hs_0.len rfl
    have ha_0 := ha.ext hp_0
    exact e2_fromM hen ha_0 hcall (e2_cutA_ok (e2_fa (fun al st E h hc => hn_0 al st E h hc) e2_fz)) (hC [28]) (X := e2x_229) ex2_229 28 ck_b58_0
  have EN_0 := e2_entL (u := 4) (j := 5) (lo := 2147483648) (hi := 2147483656) hl0 rfl rfl rfl ci_b58_0 cj_b58_0 L_0
  exact e2_from hen ha hcall (e2_cutA_ok (e2_fa (fun al st E h hc => EN_0 al st E h hc) e2_fz)) (hC [28]) (X := e2x_229) ex2_229 0 ck_b58_e
/-! b59 X10_layFrom -/
def as_b59 : List ev_V := [(2, 83, 0), (0, 4, 0), (11, 2147483648, 2147483656), (11, 0, 4294967295)]
def E_b59 : e2_E := [(2147483648, 2147583648, 0, 0), (2147483648, 2147483656, 1, 0), (2147483648, 2147483688, 2, 0), (2147483648, 2147483688, 3, 0)]
noncomputable def f_b59 : ev_H := (bn459 : e2_Q8)
noncomputable def q_b59_0 : ev_H := (bn459 : e2_Q8)
noncomputable def rs_b59 : e2_Rs := [((9, 0, 0), q_b59_0)]
noncomputable def s_b59 : e2_Sm := (229, as_b59, E_b59, f_b59, rs_b59)
noncomputable def S_b59 : List e2_Sm := []
noncomputable def I_b59 : List e2_In := [(215, 2, e2x_215), (216, 1, e2x_216), (217, 1, e2x_217), (225, 5, e2x_225), (226, 3, e2x_226), (227, 2, e2x_227), (228, 3, e2x_228)]
set_option maxRecDepth 1000000 in
theorem co_b59 : e2_okSB E_b59.length as_b59 f_b59 rs_b59 = true := by decide +kernel
def al_b59_0 : List ev_V := [(2, 83, 0), (0, 4, 0), (11, 2147483648, 2147483656), (11, 0, 4294967295), (11, 2147483684, 2147483692), (1, 4, 4294967296), (9, 0, 0), (9, 0, 0)]
def E_b59_0 : e2_E := [(2147483648, 2147583648, 0, 0), (2147483648, 2147483656, 1, 0), (2147483648, 2147483688, 2, 0), (2147483648, 2147483688, 3, 0), (2147483648, 2147483656, 4, 0)]
noncomputable def h_b59_0 : ev_H := (bn459 : e2_Q8)
noncomputable def cl_b59_e : List (Nat × e2_S) := [(28, e2_cutL (al_b59_0.set 5 (11, 2147483648, 2147483656)) 4 (E_b59_0.take 4) h_b59_0)]
set_option maxRecDepth 1000000 in
theorem ck_b59_e : e2_run (e2_cal S_b59 I_b59 4000 2) (e2_fin rs_b59) e2x_229 (e2_bpL cl_b59_e) (e2_cutA cl_b59_e) 4000 (e2_seek e2x_229 0) (e2_al 8 as_b59) [] E_b59 f_b59 = true := by decide +kernel
noncomputable def cl_b59_0 : List (Nat × e2_S) := [(28, e2_cutL (al_b59_0.set 5 (13, 12, 2147483656)) 4 (E_b59_0.take 4) h_b59_0)]
set_option maxRecDepth 1000000 in
theorem ck_b59_0 : e2_runM (e2_cal S_b59 I_b59 4000 2) (e2_fin rs_b59) e2x_229 (e2_bpL cl_b59_0) (e2_cutA cl_b59_0) 4000 (e2_seek e2x_229 28) al_b59_0 [] E_b59_0 h_b59_0 = true := by decide +kernel
set_option maxRecDepth 1000000 in
theorem ci_b59_0 : e2_idl 4 (al_b59_0.set 5 (9, 0, 0)) = true := by decide +kernel
set_option maxRecDepth 1000000 in
theorem cj_b59_0 : e2_idh 4 8 h_b59_0 = true := by decide +kernel
theorem cs_b59 (hen : en_ok) (l : Launch) : e2_smOk l 3 s_b59 := by
  refine e2_conG (H := 0) (n := 2) (C := evd_229) (S := S_b59) (I := I_b59) (fuel := 4000) hen ei_229 e2_fz (e2_fa ein_215 (e2_fa ein_216 (e2_fa ein_217 (e2_fa ein_225 (e2_fa ein_226 (e2_fa ein_227 (e2_fa ein_228 e2_fz))))))) (by decide) co_b59 fun M d _ hC hcall p e R s m args below meth c Q D cA A ads r0 ha hl0 => ?_
  have L_0 : e2_gdM M p l e R s m args below meth c Q D cA A ads r0 28 al_b59_0 [] E_b59_0 h_b59_0 := by
    refine e2_indL (u := 4) (j := 5) (lo := 2147483648) (hi := 2147483656) (b := 4) (dd := 0) hl0 (by decide) rfl rfl (Or.inr ⟨rfl, rfl⟩) rfl ci_b59_0 cj_b59_0 ?_
    intro r_0 k_0 hk_0 hp_0 hs_0 hn_0
    have hl_0 : r_0.length ≤ 5 := hs_0.len rfl
    have ha_0 := ha.ext hp_0
    exact e2_fromM hen ha_0 hcall (e2_cutA_ok (e2_fa (fun al st E h hc => hn_0 al st E h hc) e2_fz)) (hC [28]) (X := e2x_229) ex2_229 28 ck_b59_0
  have EN_0 := e2_entL (u := 4) (j := 5) (lo := 2147483648) (hi := 2147483656) hl0 rfl rfl rfl ci_b59_0 cj_b59_0 L_0
  exact e2_from hen ha hcall (e2_cutA_ok (e2_fa (fun al st E h hc => EN_0 al st E h hc) e2_fz)) (hC [28]) (X := e2x_229) ex2_229 0 ck_b59_e
/-! b60 X10_layFrom -/
def as_b60 : List ev_V := [(2, 83, 0), (0, 3, 0), (11, 2147483648, 2147483656), (11, 0, 4294967295)]
def E_b60 : e2_E := [(2147483648, 2147583648, 0, 0), (2147483648, 2147483656, 1, 0), (2147483648, 2147483688, 2, 0), (2147483648, 2147483688, 3, 0)]
noncomputable def f_b60 : ev_H := (bn459 : e2_Q8)
noncomputable def q_b60_0 : ev_H := (bn459 : e2_Q8)
noncomputable def rs_b60 : e2_Rs := [((9, 0, 0), q_b60_0)]
noncomputable def s_b60 : e2_Sm := (229, as_b60, E_b60, f_b60, rs_b60)
noncomputable def S_b60 : List e2_Sm := []
noncomputable def I_b60 : List e2_In := [(215, 2, e2x_215), (216, 1, e2x_216), (217, 1, e2x_217), (225, 5, e2x_225), (226, 3, e2x_226), (227, 2, e2x_227), (228, 3, e2x_228)]
set_option maxRecDepth 1000000 in
theorem co_b60 : e2_okSB E_b60.length as_b60 f_b60 rs_b60 = true := by decide +kernel
def al_b60_0 : List ev_V := [(2, 83, 0), (0, 3, 0), (11, 2147483648, 2147483656), (11, 0, 4294967295), (11, 2147483675, 2147483683), (1, 4, 4294967296), (9, 0, 0), (9, 0, 0)]
def E_b60_0 : e2_E := [(2147483648, 2147583648, 0, 0), (2147483648, 2147483656, 1, 0), (2147483648, 2147483688, 2, 0), (2147483648, 2147483688, 3, 0), (2147483648, 2147483656, 4, 0)]
noncomputable def h_b60_0 : ev_H := (bn459 : e2_Q8)
noncomputable def cl_b60_e : List (Nat × e2_S) := [(28, e2_cutL (al_b60_0.set 5 (11, 2147483648, 2147483656)) 4 (E_b60_0.take 4) h_b60_0)]
set_option maxRecDepth 1000000 in
theorem ck_b60_e : e2_run (e2_cal S_b60 I_b60 4000 2) (e2_fin rs_b60) e2x_229 (e2_bpL cl_b60_e) (e2_cutA cl_b60_e) 4000 (e2_seek e2x_229 0) (e2_al 8 as_b60) [] E_b60 f_b60 = true := by decide +kernel
noncomputable def cl_b60_0 : List (Nat × e2_S) := [(28, e2_cutL (al_b60_0.set 5 (13, 12, 2147483656)) 4 (E_b60_0.take 4) h_b60_0)]
set_option maxRecDepth 1000000 in
theorem ck_b60_0 : e2_runM (e2_cal S_b60 I_b60 4000 2) (e2_fin rs_b60) e2x_229 (e2_bpL cl_b60_0) (e2_cutA cl_b60_0) 4000 (e2_seek e2x_229 28) al_b60_0 [] E_b60_0 h_b60_0 = true := by decide +kernel
set_option maxRecDepth 1000000 in
theorem ci_b60_0 : e2_idl 4 (al_b60_0.set 5 (9, 0, 0)) = true := by decide +kernel
set_option maxRecDepth 1000000 in
theorem cj_b60_0 : e2_idh 4 8 h_b60_0 = true := by decide +kernel
theorem cs_b60 (hen : en_ok) (l : Launch) : e2_smOk l 3 s_b60 := by
  refine e2_conG (H := 0) (n := 2) (C := evd_229) (S := S_b60) (I := I_b60) (fuel := 4000) hen ei_229 e2_fz (e2_fa ein_215 (e2_fa ein_216 (e2_fa ein_217 (e2_fa ein_225 (e2_fa ein_226 (e2_fa ein_227 (e2_fa ein_228 e2_fz))))))) (by decide) co_b60 fun M d _ hC hcall p e R s m args below meth c Q D cA A ads r0 ha hl0 => ?_
  have L_0 : e2_gdM M p l e R s m args below meth c Q D cA A ads r0 28 al_b60_0 [] E_b60_0 h_b60_0 := by
    refine e2_indL (u := 4) (j := 5) (lo := 2147483648) (hi := 2147483656) (b := 4) (dd := 0) hl0 (by decide) rfl rfl (Or.inr ⟨rfl, rfl⟩) rfl ci_b60_0 cj_b60_0 ?_
    intro r_0 k_0 hk_0 hp_0 hs_0 hn_0
    have hl_0 : r_0.length ≤ 5 := hs_0.len rfl
    have ha_0 := ha.ext hp_0
    exact e2_fromM hen ha_0 hcall (e2_cutA_ok (e2_fa (fun al st E h hc => hn_0 al st E h hc) e2_fz)) (hC [28]) (X := e2x_229) ex2_229 28 ck_b60_0
  have EN_0 := e2_entL (u := 4) (j := 5) (lo := 2147483648) (hi := 2147483656) hl0 rfl rfl rfl ci_b60_0 cj_b60_0 L_0
  exact e2_from hen ha hcall (e2_cutA_ok (e2_fa (fun al st E h hc => EN_0 al st E h hc) e2_fz)) (hC [28]) (X := e2x_229) ex2_229 0 ck_b60_e
/-! b61 X10_layFrom -/
def as_b61 : List ev_V := [(2, 83, 0), (0, 2, 0), (11, 2147483648, 2147483656), (11, 0, 4294967295)]
def E_b61 : e2_E := [(2147483648, 2147583648, 0, 0), (2147483648, 2147483656, 1, 0), (2147483648, 2147483688, 2, 0), (2147483648, 2147483688, 3, 0)]
noncomputable def f_b61 : ev_H := (bn459 : e2_Q8)
noncomputable def q_b61_0 : ev_H := (bn459 : e2_Q8)
noncomputable def rs_b61 : e2_Rs := [((9, 0, 0), q_b61_0)]
noncomputable def s_b61 : e2_Sm := (229, as_b61, E_b61, f_b61, rs_b61)
noncomputable def S_b61 : List e2_Sm := []
noncomputable def I_b61 : List e2_In := [(215, 2, e2x_215), (216, 1, e2x_216), (217, 1, e2x_217), (225, 5, e2x_225), (226, 3, e2x_226), (227, 2, e2x_227), (228, 3, e2x_228)]
set_option maxRecDepth 1000000 in
theorem co_b61 : e2_okSB E_b61.length as_b61 f_b61 rs_b61 = true := by decide +kernel
def al_b61_0 : List ev_V := [(2, 83, 0), (0, 2, 0), (11, 2147483648, 2147483656), (11, 0, 4294967295), (11, 2147483666, 2147483674), (1, 4, 4294967296), (9, 0, 0), (9, 0, 0)]
def E_b61_0 : e2_E := [(2147483648, 2147583648, 0, 0), (2147483648, 2147483656, 1, 0), (2147483648, 2147483688, 2, 0), (2147483648, 2147483688, 3, 0), (2147483648, 2147483656, 4, 0)]
noncomputable def h_b61_0 : ev_H := (bn459 : e2_Q8)
noncomputable def cl_b61_e : List (Nat × e2_S) := [(28, e2_cutL (al_b61_0.set 5 (11, 2147483648, 2147483656)) 4 (E_b61_0.take 4) h_b61_0)]
set_option maxRecDepth 1000000 in
theorem ck_b61_e : e2_run (e2_cal S_b61 I_b61 4000 2) (e2_fin rs_b61) e2x_229 (e2_bpL cl_b61_e) (e2_cutA cl_b61_e) 4000 (e2_seek e2x_229 0) (e2_al 8 as_b61) [] E_b61 f_b61 = true := by decide +kernel
noncomputable def cl_b61_0 : List (Nat × e2_S) := [(28, e2_cutL (al_b61_0.set 5 (13, 12, 2147483656)) 4 (E_b61_0.take 4) h_b61_0)]
set_option maxRecDepth 1000000 in
theorem ck_b61_0 : e2_runM (e2_cal S_b61 I_b61 4000 2) (e2_fin rs_b61) e2x_229 (e2_bpL cl_b61_0) (e2_cutA cl_b61_0) 4000 (e2_seek e2x_229 28) al_b61_0 [] E_b61_0 h_b61_0 = true := by decide +kernel
set_option maxRecDepth 1000000 in
theorem ci_b61_0 : e2_idl 4 (al_b61_0.set 5 (9, 0, 0)) = true := by decide +kernel
set_option maxRecDepth 1000000 in
theorem cj_b61_0 : e2_idh 4 8 h_b61_0 = true := by decide +kernel
theorem cs_b61 (hen : en_ok) (l : Launch) : e2_smOk l 3 s_b61 := by
  refine e2_conG (H := 0) (n := 2) (C := evd_229) (S := S_b61) (I := I_b61) (fuel := 4000) hen ei_229 e2_fz (e2_fa ein_215 (e2_fa ein_216 (e2_fa ein_217 (e2_fa ein_225 (e2_fa ein_226 (e2_fa ein_227 (e2_fa ein_228 e2_fz))))))) (by decide) co_b61 fun M d _ hC hcall p e R s m args below meth c Q D cA A ads r0 ha hl0 => ?_
  have L_0 : e2_gdM M p l e R s m args below meth c Q D cA A ads r0 28 al_b61_0 [] E_b61_0 h_b61_0 := by
    refine e2_indL (u := 4) (j := 5) (lo := 2147483648) (hi := 2147483656) (b := 4) (dd := 0) hl0 (by decide) rfl rfl (Or.inr ⟨rfl, rfl⟩) rfl ci_b61_0 cj_b61_0 ?_
    intro r_0 k_0 hk_0 hp_0 hs_0 hn_0
    have hl_0 : r_0.length ≤ 5 := hs_0.len rfl
    have ha_0 := ha.ext hp_0
    exact e2_fromM hen ha_0 hcall (e2_cutA_ok (e2_fa (fun al st E h hc => hn_0 al st E h hc) e2_fz)) (hC [28]) (X := e2x_229) ex2_229 28 ck_b61_0
  have EN_0 := e2_entL (u := 4) (j := 5) (lo := 2147483648) (hi := 2147483656) hl0 rfl rfl rfl ci_b61_0 cj_b61_0 L_0
  exact e2_from hen ha hcall (e2_cutA_ok (e2_fa (fun al st E h hc => EN_0 al st E h hc) e2_fz)) (hC [28]) (X := e2x_229) ex2_229 0 ck_b61_e
